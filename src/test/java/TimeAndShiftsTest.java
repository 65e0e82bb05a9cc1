/** Promises 1 to 9: a new object, time, workers, shifts and their stamps. */
public final class TimeAndShiftsTest {
    private static final Due due = new Due();

    public static void main(String[] args) {
        newObject();
        pass();
        worker();
        shift();
        hold();
        holdAndOverlaps();
        stamp();
        stampRefused();
        holder();
        shiftOf();
        orderOfAllShifts();
        rest();
        due.end();
    }

    private static void newObject() {
        due.promise("Promise 1: a new object");
        UnionClock clock = new UnionClock();
        due.is("claims()", clock.claims(), 0);
        due.is("offers()", clock.offers(), 0);
        due.is("wrongAt()", clock.wrongAt(), 0);
        due.is("empty()", clock.empty(), 0);
        due.outOfBounds("holder(0)", () -> clock.holder(0));
        due.outOfBounds("drop(0)", () -> clock.drop(0));
        due.outOfBounds("state(0)", () -> clock.state(0));
        due.outOfBounds("ring(0)", () -> clock.ring(0));
        for (int worker = 0; worker < 8; worker++) {
            int asked = worker;
            due.is("wages", clock.wages(worker), 0);
            due.outOfBounds("shiftOf", () -> clock.shiftOf(asked, 0));
        }
        int shift = clock.shift(0, 1, 0);
        due.is("the first shift", shift, 0);
        for (int worker = 0; worker < 8; worker++) {
            int asked = worker;
            due.badState("hold without skills", () -> clock.hold(shift, asked));
            due.is("the first wage", clock.worker(worker, 0, 0), 10);
        }
        due.is("now begins at 0", clock.pass(1), 1);
        due.is("another object is new", new UnionClock().shift(5, 5, 3), 0);
    }

    private static void pass() {
        due.promise("Promise 2: pass");
        UnionClock clock = new UnionClock();
        due.is("pass(1)", clock.pass(1), 1);
        due.is("pass(200)", clock.pass(200), 201);
        due.badArgument("pass(0)", () -> clock.pass(0));
        due.badArgument("pass(201)", () -> clock.pass(201));
        due.badArgument("pass(-1)", () -> clock.pass(-1));
        due.badArgument("pass(lowest)", () -> clock.pass(Integer.MIN_VALUE));
        due.badArgument("pass(highest)", () -> clock.pass(Integer.MAX_VALUE));
        due.is("pass(50) behind refusals", clock.pass(50), 251);
        for (int now = 451; now <= 1851; now += 200) {
            due.is("pass(200)", clock.pass(200), now);
        }
        due.badState("pass to 2001", () -> clock.pass(150));
        due.badArgument("the argument is looked at first", () -> clock.pass(201));
        due.is("pass to 2000", clock.pass(149), 2000);
        due.badState("pass behind 2000", () -> clock.pass(1));
        due.badArgument("the argument is looked at first", () -> clock.pass(0));
    }

    private static void worker() {
        due.promise("Promise 3: worker");
        UnionClock clock = new UnionClock();
        due.is("the wage before", clock.worker(0, 15, 1000), 10);
        due.is("the wage before", clock.worker(0, 0, 0), 1000);
        due.is("the wage before", clock.worker(0, 3, 7), 0);
        due.is("another worker", clock.worker(7, 8, 20), 10);
        due.outOfBounds("worker 8", () -> clock.worker(8, 0, 0));
        due.outOfBounds("worker -1", () -> clock.worker(-1, 0, 0));
        due.outOfBounds("no worker, bad skills", () -> clock.worker(8, 16, 1001));
        due.badArgument("skills 16", () -> clock.worker(0, 16, 5));
        due.badArgument("skills -1", () -> clock.worker(0, -1, 5));
        due.badArgument("wage 1001", () -> clock.worker(0, 0, 1001));
        due.badArgument("wage -1", () -> clock.worker(0, 0, -1));
        int first = clock.shift(10, 4, 0);
        int second = clock.shift(20, 4, 1);
        int third = clock.shift(30, 4, 2);
        due.is("skill 0 of 3", clock.hold(first, 0), -1);
        due.is("skill 1 of 3", clock.hold(second, 0), -1);
        due.badState("skill 2 of 3", () -> clock.hold(third, 0));
        due.is("refused wages are not kept", clock.worker(0, 4, 30), 7);
        due.is("shifts stay", clock.holder(first), 0);
        due.is("shifts stay", clock.shiftOf(0, 1), second);
        due.badState("the skill has gone", () -> clock.hold(first, 0));
        due.is("the new skill", clock.hold(third, 0), -1);
        due.is("the skill of worker 7", clock.hold(clock.shift(0, 1, 3), 7), -1);
    }

    private static void shift() {
        due.promise("Promise 4: shift");
        UnionClock clock = Clocks.ofAllSkills();
        due.badArgument("begin -1", () -> clock.shift(-1, 1, 0));
        due.badArgument("begin 2001", () -> clock.shift(2001, 1, 0));
        due.badArgument("hours 0", () -> clock.shift(0, 0, 0));
        due.badArgument("hours 17", () -> clock.shift(0, 17, 0));
        due.badArgument("skill -1", () -> clock.shift(0, 1, -1));
        due.badArgument("skill 4", () -> clock.shift(0, 1, 4));
        due.is("the first", clock.shift(0, 16, 3), 0);
        due.is("the last hour", clock.shift(2000, 16, 0), 1);
        due.is("nobody holds it at first", clock.holder(0), -1);
        clock.hold(0, 3);
        due.is("a planned shift has its hours", clock.rest(0), 10000);
        for (int number = 2; number < 40; number++) {
            due.is("the next", clock.shift(10, 1, 0), number);
        }
        due.badState("40 shifts", () -> clock.shift(10, 1, 0));
        due.badArgument("the argument is looked at first", () -> clock.shift(10, 17, 0));
        due.is("the last one is there", clock.holder(39), -1);
        due.outOfBounds("none behind it", () -> clock.holder(40));
        Clocks.passTo(clock, 40);
        due.is("a shift in the past can be held", clock.hold(39, 0), -1);
    }

    private static void hold() {
        due.promise("Promise 5: hold");
        UnionClock clock = Clocks.ofAllSkills();
        int shift = clock.shift(10, 5, 2);
        due.is("from nobody", clock.hold(shift, 4), -1);
        due.is("from 4 to 5", clock.hold(shift, 5), 4);
        due.is("4 has it no more", clock.holder(shift), 5);
        due.outOfBounds("4 has it no more", () -> clock.shiftOf(4, 0));
        due.is("5 has it", clock.shiftOf(5, 0), shift);
        due.is("from 5 to 5", clock.hold(shift, 5), 5);
        due.outOfBounds("5 has it once", () -> clock.shiftOf(5, 1));
        due.is("to nobody", clock.hold(shift, -1), 5);
        due.is("from nobody to nobody", clock.hold(shift, -1), -1);
        due.outOfBounds("5 has it no more", () -> clock.shiftOf(5, 0));
        due.outOfBounds("no such shift", () -> clock.hold(1, 0));
        due.outOfBounds("no such shift", () -> clock.hold(-1, 0));
        due.outOfBounds("no such shift", () -> clock.hold(40, -1));
        due.outOfBounds("no such worker", () -> clock.hold(shift, 8));
        due.outOfBounds("no such worker", () -> clock.hold(shift, -2));
        clock.hold(shift, 0);
        clock.worker(0, 11, 10);
        due.badState("asked of one who holds it", () -> clock.hold(shift, 0));
        due.is("it stays", clock.holder(shift), 0);
        clock.worker(1, 11, 10);
        due.badState("without the skill", () -> clock.hold(shift, 1));
        due.is("it stays", clock.holder(shift), 0);
        due.is("taken from one without the skill", clock.hold(shift, 2), 0);
    }

    private static void holdAndOverlaps() {
        due.promise("Promise 5: hold, overlaps");
        UnionClock clock = Clocks.ofAllSkills();
        int middle = Clocks.held(clock, 20, 10, 0);
        int endsAtBegin = clock.shift(10, 10, 0);
        int endsBehindBegin = clock.shift(10, 11, 0);
        int beginsAtEnd = clock.shift(30, 5, 0);
        int beginsAheadOfEnd = clock.shift(29, 5, 0);
        int inside = clock.shift(22, 3, 0);
        int around = clock.shift(19, 12, 0);
        int same = clock.shift(20, 10, 0);
        due.badState("ends behind the begin", () -> clock.hold(endsBehindBegin, 0));
        due.badState("begins ahead of the end", () -> clock.hold(beginsAheadOfEnd, 0));
        due.badState("inside", () -> clock.hold(inside, 0));
        due.badState("around", () -> clock.hold(around, 0));
        due.badState("the same hours", () -> clock.hold(same, 0));
        due.outOfBounds("nothing was given", () -> clock.shiftOf(0, 1));
        due.is("nobody holds it", clock.holder(around), -1);
        due.is("ends at the begin", clock.hold(endsAtBegin, 0), -1);
        due.is("begins at the end", clock.hold(beginsAtEnd, 0), -1);
        due.is("another worker", clock.hold(around, 1), -1);
        due.is("overlaps do not count for nobody", clock.hold(middle, -1), 0);
        due.is("free again", clock.hold(inside, 0), -1);
        due.badState("taken again", () -> clock.hold(middle, 0));
        Clocks.passTo(clock, 60);
        clock.stamp(inside, 40, 50);
        due.badState("stamps do not make room", () -> clock.hold(middle, 0));
        int atStamps = clock.shift(42, 4, 0);
        due.is("stamps do not take room", clock.hold(atStamps, 0), -1);
        int stamped = Clocks.held(clock, 20, 10, 2);
        int ahead = Clocks.held(clock, 10, 10, 3);
        int behind = Clocks.held(clock, 30, 10, 4);
        clock.stamp(stamped, 12, 36);
        due.is("its own stamps take no room ahead", clock.hold(stamped, 3), 2);
        due.is("its own stamps take no room behind", clock.hold(stamped, 4), 3);
        due.is("nor of one that it comes behind of", clock.hold(ahead, 4), 3);
        due.is("behind", clock.holder(behind), 4);
        int meets = clock.shift(26, 3, 0);
        clock.stamp(stamped, 50, 52);
        due.badState("its own stamps make no room", () -> clock.hold(meets, 4));
        clock.stamp(stamped, 1, 2);
        due.badState("its own stamps make no room", () -> clock.hold(meets, 4));
        clock.hold(meets, 5);
        due.badState("its own stamps make no room", () -> clock.hold(stamped, 5));
    }

    private static void stamp() {
        due.promise("Promise 6: stamp");
        UnionClock clock = Clocks.ofAllSkills();
        int shift = Clocks.held(clock, 10, 8, 0);
        Clocks.passTo(clock, 40);
        due.is("as planned", clock.stamp(shift, 10, 18), 0);
        due.is("longer", clock.stamp(shift, 9, 20), 3);
        due.is("shorter", clock.stamp(shift, 12, 13), -7);
        due.is("24 hours, from 0", clock.stamp(shift, 0, 24), 16);
        due.is("24 hours, up to now", clock.stamp(shift, 16, 40), 16);
        due.is("the last hour", clock.stamp(shift, 39, 40), -7);
        due.is("stamps tell the hours", clock.wages(0), 10);
        clock.stamp(shift, 30, 35);
        due.is("stamps come again", clock.wages(0), 50);
        clock.hold(shift, 1);
        due.is("stamps stay with the shift", clock.wages(1), 100);
        int ahead = Clocks.held(clock, 60, 2, 2);
        due.is("ahead of its planned begin", clock.stamp(ahead, 38, 39), -1);
        Clocks.passTo(clock, 118);
        due.is("100 hours behind the planned end", clock.stamp(shift, 117, 118), -7);
        clock.pass(1);
        due.badState("101 hours behind it", () -> clock.stamp(shift, 10, 18));
        due.is("the stamps stay", clock.wages(1), 20);
    }

    private static void stampRefused() {
        due.promise("Promise 6: stamp, refused");
        UnionClock clock = Clocks.ofAllSkills();
        int shift = Clocks.held(clock, 10, 8, 0);
        int free = clock.shift(10, 8, 0);
        due.badArgument("begin behind now", () -> clock.stamp(shift, 1, 2));
        due.badArgument("end behind now", () -> clock.stamp(shift, 0, 1));
        Clocks.passTo(clock, 40);
        due.outOfBounds("no such shift", () -> clock.stamp(2, 10, 18));
        due.outOfBounds("no such shift", () -> clock.stamp(-1, 10, 18));
        due.outOfBounds("no such shift, bad begin", () -> clock.stamp(2, -1, 99));
        due.badArgument("begin -1", () -> clock.stamp(shift, -1, 5));
        due.badArgument("begin 41", () -> clock.stamp(shift, 41, 42));
        due.badArgument("begin highest", () -> clock.stamp(shift, Integer.MAX_VALUE, Integer.MIN_VALUE));
        due.badArgument("end lowest", () -> clock.stamp(shift, 0, Integer.MIN_VALUE));
        due.badArgument("end at begin", () -> clock.stamp(shift, 10, 10));
        due.badArgument("end ahead of begin", () -> clock.stamp(shift, 10, 9));
        due.badArgument("25 hours", () -> clock.stamp(shift, 10, 35));
        due.badArgument("end 41", () -> clock.stamp(shift, 30, 41));
        due.badArgument("bad end, not held", () -> clock.stamp(free, 30, 41));
        due.badState("not held", () -> clock.stamp(free, 10, 18));
        due.is("nothing was stamped", clock.wages(0), 80);
        clock.hold(free, 1);
        due.is("nothing was stamped", clock.wages(1), 160);
    }

    private static void holder() {
        due.promise("Promise 7: holder");
        UnionClock clock = Clocks.ofAllSkills();
        due.outOfBounds("no shift 0", () -> clock.holder(0));
        int first = clock.shift(0, 1, 0);
        int second = Clocks.held(clock, 0, 1, 7);
        due.is("nobody", clock.holder(first), -1);
        due.is("7", clock.holder(second), 7);
        clock.hold(first, 0);
        due.is("0", clock.holder(first), 0);
        due.is("7 still", clock.holder(second), 7);
        due.outOfBounds("no shift 2", () -> clock.holder(2));
        due.outOfBounds("no shift -1", () -> clock.holder(-1));
        due.outOfBounds("no shift lowest", () -> clock.holder(Integer.MIN_VALUE));
        due.outOfBounds("no shift highest", () -> clock.holder(Integer.MAX_VALUE));
    }

    private static void shiftOf() {
        due.promise("Promise 8: shiftOf");
        UnionClock clock = Clocks.ofAllSkills();
        int last = Clocks.held(clock, 30, 2, 3);
        int first = Clocks.held(clock, 10, 2, 3);
        int middle = Clocks.held(clock, 20, 2, 3);
        order(clock, 3, first, middle, last);
        due.outOfBounds("place 3", () -> clock.shiftOf(3, 3));
        due.outOfBounds("place -1", () -> clock.shiftOf(3, -1));
        due.outOfBounds("place 40", () -> clock.shiftOf(3, 40));
        due.outOfBounds("place highest", () -> clock.shiftOf(3, Integer.MAX_VALUE));
        due.outOfBounds("place lowest", () -> clock.shiftOf(3, Integer.MIN_VALUE));
        due.outOfBounds("worker 8", () -> clock.shiftOf(8, 0));
        due.outOfBounds("worker -1", () -> clock.shiftOf(-1, 0));
        Clocks.passTo(clock, 50);
        clock.stamp(first, 25, 27);
        order(clock, 3, middle, first, last);
        clock.stamp(last, 5, 6);
        order(clock, 3, last, middle, first);
        clock.stamp(first, 20, 21);
        order(clock, 3, last, first, middle);
        clock.stamp(last, 20, 40);
        order(clock, 3, last, first, middle);
        clock.stamp(last, 21, 40);
        order(clock, 3, first, middle, last);
        clock.hold(middle, 2);
        order(clock, 3, first, last);
        order(clock, 2, middle);
        clock.stamp(last, 20, 40);
        clock.hold(last, -1);
        clock.hold(last, 3);
        order(clock, 3, last, first);
        clock.hold(first, -1);
        clock.hold(first, 3);
        order(clock, 3, last, first);
        clock.hold(first, -1);
        order(clock, 3, last);
    }

    private static void order(UnionClock clock, int worker, int... shifts) {
        for (int place = 0; place < shifts.length; place++) {
            due.is("place " + place + " of worker " + worker, clock.shiftOf(worker, place), shifts[place]);
        }
        due.outOfBounds("no more shifts", () -> clock.shiftOf(worker, shifts.length));
    }

    private static void orderOfAllShifts() {
        due.promise("Promise 8: shiftOf, of one who holds all shifts");
        UnionClock clock = Clocks.ofAllSkills();
        int[] rising = new int[40];
        for (int shift = 0; shift < 40; shift++) {
            Clocks.held(clock, 20 * (39 - shift), 16, 7);
            rising[39 - shift] = shift;
        }
        order(clock, 7, rising);
        due.is("rest of the last one", clock.rest(0), 4);
        Clocks.passTo(clock, 30);
        clock.stamp(0, 1, 2);
        due.is("from the last place to the second", clock.shiftOf(7, 1), 0);
        due.is("the first stays", clock.shiftOf(7, 0), 39);
        due.is("the others move on", clock.shiftOf(7, 39), 1);
        due.is("held by the same", clock.hold(0, 7), 7);
        due.is("given to another", clock.hold(0, 6), 7);
        due.is("the others move back", clock.shiftOf(7, 38), 1);
        due.outOfBounds("39 are left", () -> clock.shiftOf(7, 39));
    }

    private static void rest() {
        due.promise("Promise 9: rest");
        UnionClock clock = Clocks.ofAllSkills();
        int last = Clocks.held(clock, 30, 4, 0);
        int first = Clocks.held(clock, 10, 4, 0);
        int free = clock.shift(20, 4, 0);
        int other = Clocks.held(clock, 16, 4, 1);
        due.is("the first one", clock.rest(first), 10000);
        due.is("behind the first one", clock.rest(last), 16);
        due.is("not held", clock.rest(free), 10000);
        due.is("alone", clock.rest(other), 10000);
        clock.hold(free, 0);
        due.is("in between", clock.rest(free), 6);
        due.is("behind that", clock.rest(last), 6);
        Clocks.passTo(clock, 60);
        clock.stamp(free, 12, 33);
        due.is("begins ahead of the end, by stamps", clock.rest(free), -2);
        due.is("ends behind the begin, by stamps", clock.rest(last), -3);
        clock.stamp(free, 40, 44);
        due.is("just ahead by stamps", clock.rest(free), 6);
        due.is("just ahead by stamps", clock.rest(last), 16);
        clock.hold(first, -1);
        due.is("first now", clock.rest(last), 10000);
        due.is("no shift just ahead of none", clock.rest(first), 10000);
        due.outOfBounds("no shift 4", () -> clock.rest(4));
        due.outOfBounds("no shift -1", () -> clock.rest(-1));
    }
}
