/** The bounds that the document names in 'Swaps' and promises 24 to 28, sentence by sentence. */
public final class SwapsBoundsTest {
    private static final int NONE = -1;

    private static final Due due = new Due();
    private static final Refusals refused = new Refusals(due);

    public static void main(String[] args) {
        howManyOffers();
        rings();
        swaps();
        exceptions();
        constants();
        offer();
        withdraw();
        offers();
        ring();
        swap();
        due.allQuoted("Swaps", "Promise 24", "Promise 25", "Promise 26", "Promise 27", "Promise 28");
        due.end();
    }

    /** Shifts 0, 1, .. are held by workers 0, 1, .., from 100 on, far enough apart for all swaps. */
    private static UnionClock clockOf(int workers) {
        UnionClock clock = Clocks.ofAllSkills();
        for (int worker = 0; worker < workers; worker++) {
            Clocks.held(clock, 100 + 20 * worker, 9, worker);
        }
        return clock;
    }

    /** As above, with the offers of a ring of all of them: each wants the next shift. */
    private static UnionClock ringOf(int workers) {
        UnionClock clock = clockOf(workers);
        for (int worker = 0; worker < workers; worker++) {
            clock.offer(worker, (worker + 1) % workers);
        }
        return clock;
    }

    private static void rings(String what, UnionClock clock, int... lengths) {
        for (int offer = 0; offer < lengths.length; offer++) {
            due.is(what + ", ring(" + offer + ")", clock.ring(offer), lengths[offer]);
        }
    }

    private static void holders(String what, UnionClock clock, int... holders) {
        for (int shift = 0; shift < holders.length; shift++) {
            due.is(what + ", holder(" + shift + ")", clock.holder(shift), holders[shift]);
        }
    }

    // ---- Swaps: offers

    private static void howManyOffers() {
        atMost40Offers();
        offersNameTwoHeldShifts();
        offersBeginBehindNow();
        offersAreThereUntil();
    }

    private static void atMost40Offers() {
        due.sentence("Swaps", "Offers are numbered from 0, at most 40 are ever made.");
        UnionClock clock = clockOf(2);
        for (int number = 0; number < 40; number++) {
            int asked = number;
            due.outOfBounds("not made yet", () -> clock.ring(asked));
            due.is("the next", clock.offer(number % 2, 1 - number % 2), number);
            due.is("one is there", clock.offers(), 1);
            due.is("none is there", clock.withdraw(number), 0);
        }
        due.badState("the 41st, with none there", () -> clock.offer(0, 1));
        due.outOfBounds("no offer 40", () -> clock.ring(40));
        due.is("the last of 40 with a ring", Clocks.fullOfOffers().ring(39), 2);
    }

    private static void offersNameTwoHeldShifts() {
        due.sentence("Swaps", "An offer is of a worker, who holds a shift that is given, and wants another shift, "
                + "which another worker holds;");
        UnionClock clock = clockOf(3);
        int second = Clocks.held(clock, 300, 9, 0);
        due.is("of two workers", clock.offer(0, 1), 0);
        due.is("of another shift of one", clock.offer(second, 1), 1);
        due.is("of a shift of the first", clock.offer(2, second), 2);
        due.badState("of two shifts of one worker", () -> clock.offer(0, second));
        due.badState("of the same shift", () -> clock.offer(0, 0));
        clock.hold(second, 2);
        due.is("of two workers now", clock.offer(0, second), 3);
        clock.hold(second, NONE);
        due.badState("wants one that nobody holds", () -> clock.offer(0, second));
        due.badState("gives one that nobody holds", () -> clock.offer(second, 0));
    }

    private static void offersBeginBehindNow() {
        due.sentence("Swaps", "both begin, as planned, behind now.");
        UnionClock clock = Clocks.ofAllSkills();
        int early = Clocks.held(clock, 50, 5, 0);
        int late = Clocks.held(clock, 51, 5, 1);
        int last = Clocks.held(clock, 2000, 5, 2);
        Clocks.passTo(clock, 49);
        due.is("an hour behind now", clock.offer(early, late), 0);
        due.is("an hour behind now", clock.offer(late, early), 1);
        clock.pass(1);
        due.badState("gives one that begins now", () -> clock.offer(early, late));
        due.badState("wants one that begins now", () -> clock.offer(late, early));
        due.is("an hour behind now", clock.offer(late, last), 2);
        clock.stamp(late, 10, 20);
        due.is("as planned, not by stamps", clock.offer(last, late), 3);
        clock.stamp(early, 49, 50);
        due.badState("as planned, not by stamps", () -> clock.offer(early, last));
        clock.pass(1);
        due.badState("begins now", () -> clock.offer(late, last));
        Clocks.passTo(clock, 1999);
        int another = Clocks.held(clock, 2000, 5, 3);
        due.is("the last hour is behind now", clock.offer(last, another), 4);
        clock.pass(1);
        due.badState("the last hour is now", () -> clock.offer(last, another));
    }

    private static void offersAreThereUntil() {
        due.sentence("Swaps",
                "It is there until it is taken, taken back, or a shift of it gets another worker or none.");
        isThere("at first", clock -> clock.holder(0), true);
        isThere("the same worker holds its shifts", clock -> clock.hold(0, 0) + clock.hold(1, 1), true);
        isThere("the skills are gone", clock -> clock.worker(0, 0, 0) + clock.worker(1, 0, 0), true);
        isThere("its shifts begin now", clock -> clock.pass(100), true);
        isThere("its shifts have ended", clock -> clock.pass(200), true);
        isThere("its shifts are stamped", clock -> clock.pass(30) + clock.stamp(0, 1, 2) + clock.stamp(1, 1, 2), true);
        isThere("another shift goes to its worker", clock -> clock.hold(2, 0), true);
        isThere("another offer is taken back", clock -> clock.withdraw(1), true);
        isThere("a rule is read", clock -> Clocks.read(clock, "LONG 8 PAY 1"), true);
        isThere("taken", clock -> clock.swap(0), false);
        isThere("taken from the other end", clock -> clock.swap(1), false);
        isThere("taken back", clock -> clock.withdraw(0), false);
        isThere("what it gives goes to another", clock -> clock.hold(0, 2), false);
        isThere("what it gives goes to who holds the other", clock -> clock.hold(0, 1), false);
        isThere("what it wants goes to another", clock -> clock.hold(1, 2), false);
        isThere("what it wants goes to its worker", clock -> clock.hold(1, 0), false);
        isThere("nobody holds what it gives", clock -> clock.hold(0, NONE), false);
        isThere("nobody holds what it wants", clock -> clock.hold(1, NONE), false);
        isThere("there and back", clock -> clock.hold(0, 2) + clock.hold(0, 0), false);
    }

    private interface Change {
        int of(UnionClock clock);
    }

    private static void isThere(String what, Change change, boolean isDue) {
        UnionClock clock = ringOf(2);
        Clocks.held(clock, 300, 9, 2);
        change.of(clock);
        if (isDue) {
            int others = clock.offers() - 1;
            due.is(what + ", there", clock.withdraw(0), others);
        } else {
            due.badState(what + ", not there", () -> clock.withdraw(0));
            due.is(what + ", no ring", clock.ring(0), 0);
            due.badState(what + ", no swap", () -> clock.swap(0));
        }
    }

    // ---- Swaps: rings

    private static void rings() {
        ringGoesByTheLowest();
        ringOf2To8();
        noRingWithAWorkerTwice();
        noRingThatEndsElsewhere();
    }

    private static void ringGoesByTheLowest() {
        due.sentence("Swaps", "The ring of an offer goes like this: behind an offer comes the lowest one that is there "
                + "that gives the shift that this one wants; and so on, until one comes that wants the shift that "
                + "the first one gives, which ends it.");
        UnionClock clock = clockOf(4);
        for (int[] offer : new int[][] {{0, 1}, {1, 2}, {1, 0}, {2, 3}, {2, 0}, {3, 0}}) {
            clock.offer(offer[0], offer[1]);
        }
        rings("by the lowest", clock, 4, 4, 2, 4, 3, 4);
        clock.withdraw(1);
        rings("by the lowest that is there", clock, 2, 0, 2, 0, 0, 0);
        clock.offer(1, 2);
        rings("a higher one with the same shifts", clock, 2, 0, 2, 0, 0, 0, 4);
        clock.withdraw(2);
        rings("the lowest that is there", clock, 4, 0, 0, 4, 3, 4, 4);
        clock.withdraw(3);
        rings("the lowest that is there", clock, 3, 0, 0, 0, 3, 0, 3);
        clock.withdraw(4);
        rings("none gives what one wants", clock, 0, 0, 0, 0, 0, 0, 0);
    }

    private static void ringOf2To8() {
        due.sentence("Swaps", "There is no ring if that does not happen within 8 offers, or");
        due.is("one alone", lone().ring(0), 0);
        for (int workers = 2; workers <= 8; workers++) {
            UnionClock clock = ringOf(workers);
            for (int offer = 0; offer < workers; offer++) {
                due.is("of " + workers + " from " + offer, clock.ring(offer), workers);
                due.is("of " + workers + " swapped from " + offer, ringOf(workers).swap(offer), 0);
            }
            clock.withdraw(workers - 1);
            for (int offer = 0; offer < workers; offer++) {
                due.is("of " + workers + " without the last from " + offer, clock.ring(offer), 0);
            }
        }
        UnionClock clock = clockOf(8);
        Clocks.held(clock, 400, 9, 4);
        for (int shift = 0; shift <= 8; shift++) {
            clock.offer(shift, (shift + 1) % 9);
        }
        rings("of 9", clock, 0, 0, 0, 0, 0, 0, 0, 0, 0);
        clock.offer(7, 0);
        clock.withdraw(7);
        rings("of 8, and one that leads to it", clock, 8, 8, 8, 8, 8, 8, 8, 0, 0, 8);
    }

    private static UnionClock lone() {
        UnionClock clock = clockOf(2);
        clock.offer(0, 1);
        return clock;
    }

    private static void noRingWithAWorkerTwice() {
        due.sentence("Swaps", "some worker would be twice in it.");
        for (int apart = 2; apart <= 5; apart++) {
            UnionClock clock = clockOf(7);
            clock.hold(apart, 0);
            for (int shift = 0; shift < 7; shift++) {
                clock.offer(shift, (shift + 1) % 7);
            }
            rings("0 twice, " + apart + " apart", clock, 0, 0, 0, 0, 0, 0, 0);
        }
        UnionClock clock = clockOf(3);
        int second = Clocks.held(clock, 300, 9, 0);
        clock.offer(0, 1);
        clock.offer(1, second);
        clock.offer(second, 2);
        clock.offer(2, 0);
        rings("0 twice", clock, 0, 0, 0, 0);
        clock.hold(second, 3);
        clock.offer(1, second);
        clock.offer(second, 2);
        rings("3 in its place", clock, 4, 0, 0, 4, 4, 4);
    }

    private static void noRingThatEndsElsewhere() {
        UnionClock clock = clockOf(4);
        clock.offer(0, 1);
        clock.offer(1, 2);
        clock.offer(2, 1);
        clock.offer(3, 0);
        rings("a ring that the first is not in", clock, 0, 2, 2, 0);
        refused.badState("no ring", SwapsBoundsTest::lone, c -> c.swap(0));
        int second = Clocks.held(clock, 300, 9, 1);
        clock.offer(second, 0);
        rings("its end gives another shift of the same worker", clock, 0, 2, 2, 0, 0);
    }

    // ---- Swaps: swapping

    private static void swaps() {
        swapGivesAllAtOnce();
        swapIfEachCanHold();
        swapIfAllBeginBehindNow();
        swapTakesTheOffers();
    }

    private static void swapGivesAllAtOnce() {
        due.sentence("Swaps",
                "To swap is to give each shift of the ring to the worker whose offer wants it, all at once.");
        UnionClock three = ringOf(3);
        three.swap(1);
        holders("three", three, 2, 0, 1);
        UnionClock eight = ringOf(8);
        eight.swap(7);
        holders("eight", eight, 7, 0, 1, 2, 3, 4, 5, 6);
        for (int worker = 0; worker < 8; worker++) {
            int asked = worker;
            due.is("the shift of " + worker, eight.shiftOf(worker, 0), (worker + 1) % 8);
            due.outOfBounds("the only one of " + worker, () -> eight.shiftOf(asked, 1));
        }
        UnionClock part = ringOf(3);
        int apart = Clocks.held(part, 300, 9, 0);
        part.swap(0);
        holders("those of the ring alone", part, 2, 0, 1, 0);
        due.is("in the order", part.shiftOf(0, 1), apart);
    }

    /** A ring of 0, 1 and 2; worker 1 has another shift beside the one that it wants, 140 to 149. */
    private static UnionClock withAnotherOne(int begin, int hours) {
        UnionClock clock = ringOf(3);
        Clocks.held(clock, begin, hours, 1);
        return clock;
    }

    private static void swapIfEachCanHold() {
        due.sentence("Swaps",
                "It can be done if each of these workers can hold the shift then, all others of the ring being given");
        for (int offer = 0; offer < 3; offer++) {
            int asked = offer;
            due.is("ends at the begin", withAnotherOne(130, 10).swap(offer), 0);
            due.is("begins at the end", withAnotherOne(149, 1).swap(offer), 0);
            refused.badState("ends an hour behind the begin", () -> withAnotherOne(130, 11), c -> c.swap(asked));
            refused.badState("begins an hour ahead of the end", () -> withAnotherOne(148, 1), c -> c.swap(asked));
            for (int worker = 0; worker < 3; worker++) {
                int unskilled = worker;
                Refusals.Making making = () -> {
                    UnionClock clock = ringOf(3);
                    clock.worker(unskilled, 14, 10);
                    return clock;
                };
                refused.badState("without the skill", making, c -> c.swap(asked));
            }
        }
        UnionClock clock = Clocks.ofAllSkills();
        for (int worker = 0; worker < 8; worker++) {
            Clocks.held(clock, 100 + worker, 16, worker);
        }
        for (int worker = 0; worker < 8; worker++) {
            clock.offer(worker, (worker + 1) % 8);
        }
        due.is("all overlap, and all are given", clock.swap(3), 0);
        holders("all overlap, and all are given", clock, 7, 0, 1, 2, 3, 4, 5, 6);
    }

    private static void swapIfAllBeginBehindNow() {
        due.sentence("Swaps", "and all shifts of the ring begin, as planned, behind now.");
        for (int first = 0; first < 3; first++) {
            for (int offer = 0; offer < 3; offer++) {
                int asked = offer;
                int early = first;
                due.is("all begin behind now", ringWithEarly(first, 49).swap(offer), 0);
                refused.badState("one begins now", () -> ringWithEarly(early, 50), clock -> clock.swap(asked));
                refused.badState("one has begun", () -> ringWithEarly(early, 51), clock -> clock.swap(asked));
                due.is("the ring is there", ringWithEarly(first, 50).ring(offer), 3);
            }
        }
        UnionClock stamped = ringWithEarly(0, 49);
        stamped.stamp(0, 10, 20);
        stamped.stamp(1, 48, 49);
        due.is("as planned, not by stamps", stamped.swap(0), 0);
        UnionClock last = Clocks.ofAllSkills();
        Clocks.held(last, 2000, 5, 0);
        Clocks.held(last, 2000, 6, 1);
        last.offer(0, 1);
        last.offer(1, 0);
        Clocks.passTo(last, 1999);
        due.is("an hour ahead of the last one", last.swap(1), 0);
    }

    /** A ring of three whose one shift begins at 50, the others at 100 and 120, at an hour. */
    private static UnionClock ringWithEarly(int early, int hour) {
        UnionClock clock = Clocks.ofAllSkills();
        for (int worker = 0; worker < 3; worker++) {
            Clocks.held(clock, worker == early ? 50 : 100 + 20 * worker, 9, worker);
        }
        for (int worker = 0; worker < 3; worker++) {
            clock.offer(worker, (worker + 1) % 3);
        }
        Clocks.passTo(clock, hour);
        return clock;
    }

    private static void swapTakesTheOffers() {
        due.sentence("Swaps", "The offers of the ring are taken then.");
        for (int workers = 2; workers <= 8; workers++) {
            UnionClock clock = ringOf(workers);
            due.is("all are there", clock.offers(), workers);
            clock.swap(workers / 2);
            due.is("all are taken", clock.offers(), 0);
            for (int offer = 0; offer < workers; offer++) {
                int asked = offer;
                due.badState("taken", () -> clock.withdraw(asked));
                due.badState("taken", () -> clock.swap(asked));
                due.is("taken", clock.ring(offer), 0);
            }
        }
        UnionClock clock = clockOf(6);
        for (int[] offer : new int[][] {{0, 1}, {1, 0}, {0, 2}, {3, 1}, {2, 3}, {3, 2}, {4, 5}}) {
            clock.offer(offer[0], offer[1]);
        }
        clock.swap(1);
        due.is("those with a shift of the ring have ended, too", clock.offers(), 3);
        rings("the others are there", clock, 0, 0, 0, 0, 2, 2, 0);
    }

    // ---- exceptions

    private static void exceptions() {
        throwingChangesNothing();
        firstListedIsThrown();
        outOfBounds();
    }

    private static void throwingChangesNothing() {
        due.sentence("Swaps", "A call that throws changes nothing.");
        refused.badArgument("pass", Clocks::busy, clock -> clock.pass(0));
        refused.badState("pass", () -> busyAtTheEnd(), clock -> clock.pass(200));
        refused.badArgument("worker", Clocks::busy, clock -> clock.worker(0, 3, 1001));
        refused.badArgument("shift", Clocks::busy, clock -> clock.shift(70, 5, 4));
        refused.badState("hold", Clocks::busy, clock -> clock.hold(0, 6));
        refused.badArgument("stamp", Clocks::busy, clock -> clock.stamp(0, 10, 61));
        refused.badState("stamp", Clocks::busy, clock -> clock.stamp(8, 10, 20));
        refused.badArgument("put", Clocks::busy, clock -> clock.put('p'));
        refused.badArgument("read", Clocks::busy, clock -> clock.read());
        refused.badState("drop", Clocks::busy, clock -> clock.drop(3));
        refused.badArgument("breaches", Clocks::busy, clock -> clock.breaches(0, 12));
        refused.badState("pay", Clocks::busy, clock -> clock.pay(1));
        refused.badState("takeBack", Clocks::busy, clock -> clock.takeBack(0));
        refused.badState("offer", Clocks::busy, clock -> clock.offer(4, 7));
        refused.badState("withdraw", Clocks::busy, clock -> clock.withdraw(3));
        refused.badState("swap", Clocks::busy, clock -> clock.swap(4));
    }

    private static UnionClock busyAtTheEnd() {
        UnionClock clock = Clocks.busy();
        Clocks.passTo(clock, 1900);
        return clock;
    }

    private static void firstListedIsThrown() {
        due.sentence("Swaps", "Where two exceptions apply, the one that is listed first is thrown.");
        refused.badArgument("pass", () -> busyAtTheEnd(), clock -> clock.pass(201));
        refused.outOfBounds("worker", Clocks::busy, clock -> clock.worker(8, 16, 10));
        refused.badArgument("shift", Clocks::fullOfShifts, clock -> clock.shift(2001, 5, 0));
        refused.outOfBounds("hold", Clocks::busy, clock -> clock.hold(9, 6));
        refused.outOfBounds("stamp, bad hours", Clocks::busy, clock -> clock.stamp(9, 10, 10));
        refused.badArgument("stamp, nobody", Clocks::busy, clock -> clock.stamp(8, 10, 10));
        refused.badArgument("put", () -> withFullText(), clock -> clock.put('p'));
        refused.badArgument("read", () -> withNoRuleBehind12(), clock -> clock.read());
        refused.outOfBounds("breaches", Clocks::busy, clock -> clock.breaches(8, 12));
        refused.outOfBounds("offer, gives", Clocks::busy, clock -> clock.offer(9, 8));
        refused.outOfBounds("offer, wants", Clocks::busy, clock -> clock.offer(8, 9));
        refused.outOfBounds("offer, 40 made", Clocks::fullOfOffers, clock -> clock.offer(0, 3));
    }

    private static UnionClock withFullText() {
        UnionClock clock = Clocks.busy();
        Clocks.put(clock, "0".repeat(32));
        return clock;
    }

    private static UnionClock withNoRuleBehind12() {
        UnionClock clock = Clocks.fullOfRules();
        clock.put('9');
        clock.put('9');
        return clock;
    }

    private static void outOfBounds() {
        due.sentence("Swaps",
                "IndexOutOfBoundsException: there is no such worker (0 to 7), shift, rule that was ever read, "
                + "claim, or offer that was ever made.");
        UnionClock clock = Clocks.busy();
        due.no("a rule that was dropped was read", clock.breaks(0, 3));
        due.badState("a rule that was dropped was read", () -> clock.drop(3));
        due.is("an offer that was withdrawn was made", clock.ring(3), 0);
        due.badState("an offer that was withdrawn was made", () -> clock.withdraw(3));
        due.badState("an offer that was withdrawn was made", () -> clock.swap(3));
        due.is("a claim that is VOID is one", clock.state(6), 2);
        due.badState("a claim that is VOID is one", () -> clock.pay(6));
        due.is("a shift that nobody holds is one", clock.holder(8), NONE);
        due.is("a worker without skills is one", clock.wages(6), 0);
        due.outOfBounds("worker 8", () -> clock.wages(8));
        due.outOfBounds("shift 9", () -> clock.holder(9));
        due.outOfBounds("rule 4", () -> clock.drop(4));
        due.outOfBounds("claim 8", () -> clock.state(8));
        due.outOfBounds("offer 5", () -> clock.ring(5));
    }

    private static void constants() {
        due.sentence("Swaps", "The constants: `NONE = -1`: None.");
        due.is("NONE", UnionClock.NONE, -1);
        due.sentence("Swaps", "`REST = 0, WEEK = 1, ROW = 2, LONG = 3`: Kinds of rules.");
        due.is("REST", UnionClock.REST, 0);
        due.is("WEEK", UnionClock.WEEK, 1);
        due.is("ROW", UnionClock.ROW, 2);
        due.is("LONG", UnionClock.LONG, 3);
        due.sentence("Swaps", "`OPEN = 0, PAID = 1, VOID = 2, OWED = 3`: States of claims.");
        due.is("OPEN", UnionClock.OPEN, 0);
        due.is("PAID", UnionClock.PAID, 1);
        due.is("VOID", UnionClock.VOID, 2);
        due.is("OWED", UnionClock.OWED, 3);
    }

    // ---- Promise 24: offer

    private static void offer() {
        offerReturnsTheNumber();
        offerOutOfBounds();
        offerRefusedForItsShifts();
        offerRefusedForTime();
        offerRefusedWhen40WereMade();
    }

    private static void offerReturnsTheNumber() {
        due.sentence("Promise 24", "Makes an offer.", "`gives`: the shift that is given by the worker who holds it",
                "`wants`: the shift that is wanted", "Returns the number of the offer.");
        UnionClock clock = clockOf(3);
        due.is("the first", clock.offer(0, 1), 0);
        due.is("the same again", clock.offer(0, 1), 1);
        due.is("the other way", clock.offer(1, 0), 2);
        due.is("offers()", clock.offers(), 3);
        clock.swap(0);
        due.is("numbers go on", clock.offer(2, 0), 3);
        rings("the worker who held it then", clock, 0, 0, 0, 0);
        due.is("of 1, who has 0 now", clock.offer(0, 2), 4);
        due.is("of 1 and 2", clock.ring(4), 2);
        clock.swap(4);
        holders("of 1 and 2", clock, 2, 0, 1);
    }

    private static void offerOutOfBounds() {
        due.sentence("Promise 24", "Throws `IndexOutOfBoundsException` if there is no such shift, of either");
        refused.outOfBoundsOutside(0, 8, "gives", Clocks::busy, (clock, gives) -> clock.offer(gives, 5));
        refused.outOfBoundsOutside(0, 8, "wants", Clocks::busy, (clock, wants) -> clock.offer(4, wants));
        refused.outOfBoundsOutside(0, 8, "both", Clocks::busy, (clock, both) -> clock.offer(both, both));
        refused.outOfBoundsOutside(0, 8, "gives, wants one that nobody holds", Clocks::busy,
                (clock, gives) -> clock.offer(gives, 8));
        refused.outOfBoundsOutside(0, 8, "wants, gives one that has begun", Clocks::busy,
                (clock, wants) -> clock.offer(0, wants));
        refused.outOfBoundsOutside(0, 2, "wants, 40 were made", Clocks::fullOfOffers,
                (clock, wants) -> clock.offer(0, wants));
        refused.outOfBoundsOutside(0, 39, "gives, of 40", Clocks::fullOfShifts,
                (clock, gives) -> clock.offer(gives, 1));
        due.is("the last of 40", Clocks.fullOfShifts().offer(39, 38), 0);
    }

    private static void offerRefusedForItsShifts() {
        due.sentence("Promise 24",
                "Throws `IllegalStateException` if one of both is not held, both are held by one worker");
        due.is("both are held", Clocks.busy().offer(4, 5), 5);
        refused.badState("gives one that nobody holds", Clocks::busy, clock -> clock.offer(8, 4));
        refused.badState("wants one that nobody holds", Clocks::busy, clock -> clock.offer(4, 8));
        refused.badState("nobody holds either", Clocks::busy, clock -> clock.offer(8, 8));
        due.is("of two workers", Clocks.busy().offer(7, 6), 5);
        refused.badState("of one worker", Clocks::busy, clock -> clock.offer(4, 7));
        refused.badState("of one worker", Clocks::busy, clock -> clock.offer(7, 4));
        refused.badState("the same", Clocks::busy, clock -> clock.offer(4, 4));
    }

    private static UnionClock busyAt(int hour) {
        UnionClock clock = Clocks.busy();
        Clocks.passTo(clock, hour);
        return clock;
    }

    private static void offerRefusedForTime() {
        due.sentence("Promise 24", "one does not begin behind now, or");
        due.is("4 begins an hour behind now", busyAt(99).offer(4, 5), 5);
        due.is("4 begins an hour behind now", busyAt(99).offer(5, 4), 5);
        refused.badState("4 begins now", () -> busyAt(100), clock -> clock.offer(4, 5));
        refused.badState("4 begins now", () -> busyAt(100), clock -> clock.offer(5, 4));
        refused.badState("4 has begun", () -> busyAt(101), clock -> clock.offer(4, 5));
        refused.badState("4 has begun", () -> busyAt(101), clock -> clock.offer(5, 4));
        due.is("5 and 6 begin behind now", busyAt(100).offer(5, 6), 5);
        refused.badState("both have begun", Clocks::busy, clock -> clock.offer(0, 2));
    }

    private static void offerRefusedWhen40WereMade() {
        due.sentence("Promise 24", "40 were made");
        UnionClock clock = clockOf(2);
        for (int number = 0; number < 39; number++) {
            clock.offer(0, 1);
        }
        due.is("39 were made", clock.offer(1, 0), 39);
        due.badState("40 were made", () -> clock.offer(1, 0));
        refused.badState("40 were made, all are there", Clocks::fullOfOffers, c -> c.offer(0, 1));
        refused.badState("40 were made, of others", Clocks::fullOfOffers, c -> c.offer(2, 1));
        Refusals.Making noneIsThere = () -> {
            UnionClock made = Clocks.fullOfOffers();
            made.swap(0);
            return made;
        };
        refused.badState("40 were made, none is there", noneIsThere, c -> c.offer(0, 1));
    }

    // ---- Promises 25 and 26: withdraw, offers

    private static void withdraw() {
        due.sentence("Promise 25", "Takes an offer back.", "Returns how many offers are there then.");
        UnionClock clock = Clocks.fullOfOffers();
        for (int left = 39; left >= 0; left--) {
            due.is("withdraw(" + (left * 7 + 3) % 40 + ")", clock.withdraw((left * 7 + 3) % 40), left);
        }
        due.sentence("Promise 25", "`offer`: the offer",
                "Throws `IndexOutOfBoundsException` if there is no such offer");
        outOfBoundsOfOffers("withdraw", UnionClock::withdraw);
        due.sentence("Promise 25", "Throws `IllegalStateException` if it is not there any more");
        due.is("it is there", Clocks.busy().withdraw(4), 3);
        refused.badState("taken back", Clocks::busy, c -> c.withdraw(3));
        refused.badState("its shift got another worker", () -> busyWith(c -> c.hold(6, 0)), c -> c.withdraw(1));
        refused.badState("its shift got none", () -> busyWith(c -> c.hold(6, NONE)), c -> c.withdraw(1));
        refused.badState("taken", () -> busyWith(c -> c.swap(0)), c -> c.withdraw(0));
    }

    private static UnionClock busyWith(Change change) {
        UnionClock clock = Clocks.busy();
        change.of(clock);
        return clock;
    }

    private static void outOfBoundsOfOffers(String what, Refusals.NumberCall call) {
        refused.outOfBoundsOutside(0, 4, what, Clocks::busy, call);
        refused.outOfBoundsOutside(0, -1, "of none, " + what, Clocks::fullOfShifts, call);
        refused.outOfBoundsOutside(0, 39, "of 40, " + what, Clocks::fullOfOffers, call);
    }

    private static void offers() {
        due.sentence("Promise 26", "Returns how many offers are there.");
        due.is("none was made", new UnionClock().offers(), 0);
        due.is("four are there", Clocks.busy().offers(), 4);
        due.is("40 are there", Clocks.fullOfOffers().offers(), 40);
        due.is("three are taken, one lost its shifts", busyWith(c -> c.swap(0)).offers(), 0);
        due.is("two lost a shift", busyWith(c -> c.hold(5, 0)).offers(), 2);
        due.is("time takes none", busyWith(c -> c.pass(200)).offers(), 4);
        refused.changesNothing("offers", Clocks::busy, c -> c.offers());
    }

    // ---- Promise 27: ring

    private static void ring() {
        due.sentence("Promise 27", "Returns how many offers the ring of an offer has.",
                "Returns 2 to 8; 0 if there is no ring, or the offer is not there any more.");
        rings("three, none, and one withdrawn", Clocks.busy(), 3, 3, 3, 0, 0);
        rings("a ring with one taken back", busyWith(c -> c.withdraw(1)), 0, 0, 0, 0, 0);
        rings("taken", busyWith(c -> c.swap(2)), 0, 0, 0, 0, 0);
        due.is("two", ringOf(2).ring(0), 2);
        due.is("eight", ringOf(8).ring(7), 8);
        due.is("skills and overlaps are not asked", busyWith(c -> c.worker(4, 0, 0)).ring(0), 3);
        due.is("time is not asked", busyAt(500).ring(0), 3);
        refused.changesNothing("a ring", Clocks::busy, clock -> clock.ring(0));
        refused.changesNothing("no ring", Clocks::busy, clock -> clock.ring(4));
        due.sentence("Promise 27", "`offer`: the offer",
                "Throws `IndexOutOfBoundsException` if there is no such offer");
        outOfBoundsOfOffers("ring", UnionClock::ring);
    }

    // ---- Promise 28: swap

    private static void swap() {
        swapReturnsClaims();
        swapReturnsClaimsUpTo200();
        due.sentence("Promise 28", "Swaps by the ring of an offer.");
        for (int offer = 0; offer < 3; offer++) {
            UnionClock clock = Clocks.busy();
            due.is("swap(" + offer + ")", clock.swap(offer), 1);
            holders("swap(" + offer + ")", clock, 0, 0, 1, NONE, 5, 3, 4, 3, NONE);
            due.is("the claim of 5 is VOID", clock.state(2), 2);
            due.is("the claim of 4 is made", clock.about(8), 40600);
        }
        due.sentence("Promise 28", "`offer`: the offer",
                "Throws `IndexOutOfBoundsException` if there is no such offer");
        outOfBoundsOfOffers("swap", UnionClock::swap);
        swapRefused();
    }

    private static void swapReturnsClaims() {
        due.sentence("Promise 28", "Returns how many claims there are more by that.");
        UnionClock clock = clockOf(3);
        Clocks.read(clock, "LONG 8 PAY 50");
        Clocks.read(clock, "LONG 9 PAY 50");
        for (int[] more : new int[][] {{3, 6}, {3, 9}, {0, 9}, {0, 9}}) {
            int first = clock.offer(0, 1);
            clock.offer(1, 2);
            clock.offer(2, 0);
            due.is("swap(" + first + ")", clock.swap(first), more[0]);
            due.is("claims()", clock.claims(), more[1]);
        }
        UnionClock none = ringOf(3);
        due.is("without rules", none.swap(0), 0);
        UnionClock fewer = ringOf(2);
        Clocks.held(fewer, 140, 9, 0);
        Clocks.read(fewer, "REST 12 PAY 1");
        due.is("one of rest by that, 11 hours", fewer.swap(0), 1);
        due.is("of 0 and shift 2", fewer.about(0), 200);
    }

    private static void swapReturnsClaimsUpTo200() {
        UnionClock clock = Clocks.almostFullOfClaims();
        clock.offer(0, 1);
        clock.offer(1, 0);
        due.is("one more, not 24", clock.swap(0), 1);
        due.is("claims()", clock.claims(), 200);
        due.is("of the lower shift, and the lowest rule", clock.about(199), 10000);
        due.is("another one is void", clock.state(0), 2);
        clock.offer(2, 3);
        clock.offer(3, 2);
        due.is("none more", clock.swap(2), 0);
        holders("none more", clock, 1, 0, 3, 2);
    }

    private static void swapRefused() {
        due.sentence("Promise 28", "Throws `IllegalStateException` if it has no ring, or the swap cannot be done");
        refused.badState("no ring", Clocks::busy, clock -> clock.swap(4));
        refused.badState("not there any more", Clocks::busy, clock -> clock.swap(3));
        refused.badState("taken", () -> busyWith(c -> c.swap(0)), clock -> clock.swap(0));
        for (int offer = 0; offer < 3; offer++) {
            int asked = offer;
            due.is("at 99", busyAt(99).swap(offer), 1);
            refused.badState("4 begins now", () -> busyAt(100), clock -> clock.swap(asked));
            for (int worker = 3; worker <= 5; worker++) {
                int unskilled = worker;
                refused.badState("without skills", () -> busyWith(c -> c.worker(unskilled, 0, 9)),
                        clock -> clock.swap(asked));
            }
            refused.badState("another shift overlaps", () -> busyWith(c -> Clocks.held(c, 125, 1, 4)),
                    clock -> clock.swap(asked));
            due.is("another shift begins at the end, without rest",
                    busyWith(c -> Clocks.held(c, 130, 1, 4)).swap(offer), 2);
        }
    }
}
