/** The bounds that the document names in 'Claims' and promises 17 to 23, sentence by sentence. */
public final class ClaimsBoundsTest {
    private static final int NONE = -1;
    private static final int OPEN = 0;
    private static final int PAID = 1;
    private static final int VOID = 2;
    private static final int OWED = 3;
    /** The states of the claims of Clocks.busy(). */
    private static final int[] BUSY_STATES = {PAID, OWED, OPEN, OPEN, PAID, OPEN, VOID, OPEN};

    private static final Due due = new Due();
    private static final Refusals refused = new Refusals(due);

    public static void main(String[] args) {
        howManyClaims();
        judging();
        worthInWords();
        claims();
        state();
        about();
        worth();
        pay();
        takeBack();
        wages();
        due.allQuoted("Claims", "Promise 17", "Promise 18", "Promise 19", "Promise 20", "Promise 21", "Promise 22",
                "Promise 23");
        due.end();
    }

    private static void states(String what, UnionClock clock, int... states) {
        due.is(what + ", claims()", clock.claims(), states.length);
        for (int claim = 0; claim < states.length && claim < clock.claims(); claim++) {
            due.is(what + ", state(" + claim + ")", clock.state(claim), states[claim]);
        }
    }

    private static void abouts(String what, UnionClock clock, int first, int... abouts) {
        due.is(what + ", claims()", clock.claims(), first + abouts.length);
        for (int i = 0; i < abouts.length && first + i < clock.claims(); i++) {
            due.is(what + ", about(" + (first + i) + ")", clock.about(first + i), abouts[i]);
        }
    }

    // ---- Claims: how many

    private static void howManyClaims() {
        atMost200Claims();
        noneBeyond200();
        noneBeyond200OfMany();
        oneForTheSameThree();
    }

    private static void atMost200Claims() {
        due.sentence("Claims", "Claims are numbered from 0, at most 200.");
        UnionClock clock = Clocks.almostFullOfClaims();
        due.is("199", clock.claims(), 199);
        due.outOfBounds("no claim 199", () -> clock.state(199));
        Clocks.held(clock, 370, 2, 3);
        due.is("200", clock.claims(), 200);
        due.is("the last is of 3, shift 18, rule 0", clock.about(199), 31800);
        due.is("the last is OPEN", clock.state(199), OPEN);
        Clocks.held(clock, 390, 2, 3);
        due.is("still 200", clock.claims(), 200);
        due.yes("without a claim, but broken", clock.breaks(19, 0));
        due.is("the last is paid", clock.pay(199), 2 * 40 * 50 / 100);
        due.outOfBounds("no claim 200", () -> clock.state(200));
    }

    private static void noneBeyond200() {
        due.sentence("Claims", "(Beyond 200 no claim is made.)");
        UnionClock clock = Clocks.almostFullOfClaims();
        int last = Clocks.held(clock, 370, 3, 3);
        due.is("the first of two", clock.claims(), 200);
        due.is("that of the lower rule", clock.about(199), 10000 * 3 + 100 * last);
        due.yes("the other rule is broken", clock.breaks(last, 1));
        due.is("the claims of that rule lapse, not the one that was not made", clock.drop(1), 15 + 2 + 1);
        clock.hold(last, NONE);
        due.is("the 200th is judged", clock.state(199), VOID);
        clock.hold(last, 4);
        due.is("no claim of another", clock.claims(), 200);
        due.is("the 200th is judged", clock.state(199), VOID);
        clock.hold(last, 3);
        due.is("the 200th is judged", clock.state(199), OPEN);
        clock.pay(199);
        clock.drop(0);
        due.is("the 200th is judged", clock.state(199), OWED);
        due.is("the 200th is taken back", clock.takeBack(199), 3 * 40 * 50 / 100);
        due.is("none is made in its place", clock.claims(), 200);
    }

    /** A rule that 37 shifts break is read at 185 claims: the 15 lowest shifts get theirs. */
    private static void noneBeyond200OfMany() {
        UnionClock clock = Clocks.ofAllSkills();
        for (int shift = 0; shift < 37; shift++) {
            Clocks.held(clock, 20 * (36 - shift), 5, shift % 8);
        }
        for (int rule = 0; rule < 5; rule++) {
            Clocks.read(clock, "LONG 4 PAY 1");
        }
        due.is("5 rules, 37 shifts", clock.claims(), 185);
        Clocks.read(clock, "LONG 4 PAY 1");
        due.is("15 of 37", clock.claims(), 200);
        for (int shift = 0; shift < 15; shift++) {
            due.is("by rising shifts", clock.about(185 + shift), 10000 * (shift % 8) + 100 * shift + 5);
        }
        due.is("15 lapse of 37", clock.drop(5), 15);
    }

    private static void oneForTheSameThree() {
        due.sentence("Claims", "A claim is of a worker, a shift and a rule; there is at most one for the same three.");
        UnionClock clock = Clocks.ofAllSkills();
        int shift = Clocks.held(clock, 10, 9, 0);
        Clocks.read(clock, "LONG 8 PAY 50");
        Clocks.read(clock, "LONG 8 PAY 50");
        Clocks.passTo(clock, 60);
        for (int again = 0; again < 10; again++) {
            clock.hold(shift, 1);
            clock.stamp(shift, 10, 11);
            clock.stamp(shift, 10, 24);
            clock.hold(shift, NONE);
            clock.hold(shift, 0);
        }
        abouts("two workers, two rules", clock, 0, 0, 1, 10000, 10001);
        states("judged again and again", clock, OPEN, OPEN, VOID, VOID);
        clock.pay(0);
        clock.hold(shift, NONE);
        clock.takeBack(0);
        clock.hold(shift, 0);
        states("paid and taken back", clock, OPEN, OPEN, VOID, VOID);
        int other = Clocks.held(clock, 100, 9, 0);
        abouts("another shift", clock, 4, 100 * other, 100 * other + 1);
        Clocks.read(clock, "LONG 8 PAY 50");
        abouts("another rule, two shifts", clock, 6, 2, 100 * other + 2);
    }

    // ---- Claims: judging

    private static void judging() {
        fourStates();
        judgedWhenever();
        judgedByOtherShifts();
        judgedByNothingElse();
        openBecomesVoid();
        voidBecomesOpen();
        newOnesByRisingNumbers();
    }

    private static void fourStates() {
        due.sentence("Claims", "It is OPEN, PAID, VOID or OWED.");
        due.is("OPEN", UnionClock.OPEN, OPEN);
        due.is("PAID", UnionClock.PAID, PAID);
        due.is("VOID", UnionClock.VOID, VOID);
        due.is("OWED", UnionClock.OWED, OWED);
        states("one of each at least", Clocks.busy(), BUSY_STATES);
    }

    private static void judgedWhenever() {
        due.sentence("Claims", "Whenever a rule was read or dropped, a shift got another worker or none, "
                + "or other stamps, all is judged anew:");
        UnionClock clock = Clocks.ofAllSkills();
        int shift = Clocks.held(clock, 10, 9, 0);
        int other = Clocks.held(clock, 10, 9, 1);
        states("no rule", clock);
        Clocks.read(clock, "LONG 8 PAY 50");
        states("a rule was read", clock, OPEN, OPEN);
        clock.hold(shift, 2);
        states("another worker", clock, VOID, OPEN, OPEN);
        clock.hold(shift, NONE);
        states("none", clock, VOID, OPEN, VOID);
        clock.hold(shift, 0);
        states("a worker", clock, OPEN, OPEN, VOID);
        Clocks.passTo(clock, 60);
        clock.stamp(other, 10, 18);
        states("other stamps", clock, OPEN, VOID, VOID);
        clock.stamp(other, 10, 19);
        states("other stamps", clock, OPEN, OPEN, VOID);
        clock.drop(0);
        states("the rule was dropped", clock, VOID, VOID, VOID);
    }

    /** A shift of 0 and one of 1 that each have one of shift 0's hours ahead, if they hold it. */
    private static UnionClock withOneAhead() {
        UnionClock clock = Clocks.ofAllSkills();
        Clocks.held(clock, 10, 5, 0);
        Clocks.held(clock, 20, 5, 0);
        Clocks.held(clock, 18, 5, 1);
        Clocks.read(clock, "REST 8 PAY 50");
        Clocks.passTo(clock, 60);
        return clock;
    }

    private static void judgedByOtherShifts() {
        UnionClock clock = withOneAhead();
        abouts("5 hours ahead of 1", clock, 0, 100);
        clock.hold(0, 1);
        abouts("3 hours ahead of 2", clock, 1, 10200);
        states("the shift ahead got another worker", clock, VOID, OPEN);
        clock.hold(0, NONE);
        states("the shift ahead got none", clock, VOID, VOID);
        clock.hold(0, 0);
        states("the shift ahead got a worker", clock, OPEN, VOID);
        clock.stamp(0, 10, 12);
        states("the shift ahead ended 8 hours ahead", clock, VOID, VOID);
        clock.stamp(0, 10, 13);
        states("the shift ahead ended 7 hours ahead", clock, OPEN, VOID);
        clock.stamp(0, 21, 22);
        abouts("it comes behind the other", clock, 2, 0);
        states("it comes behind the other", clock, VOID, VOID, OPEN);
        clock.stamp(0, 33, 34);
        states("8 hours behind the other", clock, VOID, VOID, VOID);
    }

    private static void judgedByNothingElse() {
        refused.changesNothing("hold by the same", Clocks::busy, clock -> clock.hold(7, 3));
        refused.changesNothing("the same stamps", Clocks::busy, clock -> clock.stamp(2, 30, 37));
        UnionClock clock = Clocks.busy();
        for (int worker = 0; worker < 8; worker++) {
            clock.worker(worker, 0, 0);
        }
        clock.shift(500, 16, 0);
        clock.put('A');
        clock.empty();
        clock.offer(4, 6);
        clock.withdraw(4);
        clock.pass(200);
        states("workers, shifts, texts, offers and time", clock, BUSY_STATES);
    }

    private static void openBecomesVoid() {
        due.sentence("Claims", "first each claim, by rising numbers, whose shift is not held by its worker any more, "
                + "or does not break its rule (or the rule holds no more): "
                + "if it is OPEN, it becomes VOID, if it is PAID, it becomes OWED.");
        lapsed("held by nobody", clock -> clock.hold(0, NONE));
        lapsed("held by another", clock -> clock.hold(0, 1));
        lapsed("does not break the rule", clock -> clock.stamp(0, 10, 18));
        lapsed("the rule was dropped", clock -> clock.drop(0));
    }

    private interface Change {
        void of(UnionClock clock);
    }

    private static UnionClock withOneClaim() {
        UnionClock clock = Clocks.ofAllSkills();
        Clocks.held(clock, 10, 9, 0);
        Clocks.read(clock, "LONG 8 PAY 50");
        Clocks.passTo(clock, 60);
        return clock;
    }

    private static void lapsed(String what, Change change) {
        UnionClock open = withOneClaim();
        change.of(open);
        due.is("OPEN, " + what, open.state(0), VOID);
        Clocks.read(open, "LONG 16 PAY 1");
        due.is("VOID, judged again, " + what, open.state(0), VOID);
        UnionClock paid = withOneClaim();
        paid.pay(0);
        change.of(paid);
        due.is("PAID, " + what, paid.state(0), OWED);
        Clocks.read(paid, "LONG 16 PAY 1");
        due.is("OWED, judged again, " + what, paid.state(0), OWED);
        due.is("OWED, taken back, " + what, paid.takeBack(0), 45);
        Clocks.read(paid, "LONG 16 PAY 1");
        due.is("taken back, judged again, " + what, paid.state(0), VOID);
    }

    private static void voidBecomesOpen() {
        due.sentence("Claims", "Then for each shift that is held, by rising numbers, and each rule that it breaks, "
                + "by rising numbers: a VOID claim of these three becomes OPEN, an OWED one PAID; "
                + "if there is none, a new one is OPEN.");
        revived("held by nobody", clock -> clock.hold(0, NONE), clock -> clock.hold(0, 0));
        revived("held by another", clock -> clock.hold(0, 1), clock -> clock.hold(0, 0));
        revived("does not break the rule", clock -> clock.stamp(0, 10, 18), clock -> clock.stamp(0, 50, 60));
        UnionClock clock = withOneClaim();
        clock.pay(0);
        Clocks.read(clock, "LONG 8 PAY 50");
        states("PAID stays, a new one is OPEN", clock, PAID, OPEN);
        clock.hold(0, 1);
        states("two new ones are OPEN", clock, OWED, VOID, OPEN, OPEN);
        clock.drop(0);
        clock.hold(0, 0);
        states("none of a dropped rule is revived", clock, OWED, OPEN, VOID, VOID);
        clock.takeBack(0);
        clock.hold(0, 1);
        clock.hold(0, 0);
        states("none of a dropped rule is revived", clock, VOID, OPEN, VOID, VOID);
    }

    private static void revived(String what, Change change, Change back) {
        UnionClock open = withOneClaim();
        change.of(open);
        back.of(open);
        due.is("VOID, no more " + what, open.state(0), OPEN);
        UnionClock paid = withOneClaim();
        paid.pay(0);
        change.of(paid);
        back.of(paid);
        due.is("OWED, no more " + what, paid.state(0), PAID);
        change.of(paid);
        paid.takeBack(0);
        back.of(paid);
        due.is("taken back, no more " + what, paid.state(0), OPEN);
    }

    private static void newOnesByRisingNumbers() {
        UnionClock clock = Clocks.ofAllSkills();
        int[] workers = {5, 2, 7, 0, 2};
        for (int shift = 0; shift < workers.length; shift++) {
            Clocks.held(clock, 200 - 20 * shift, 9, workers[shift]);
        }
        Clocks.read(clock, "LONG 8 PAY 50");
        abouts("by shifts, not workers nor begins", clock, 0, 50000, 20100, 70200, 300, 20400);
        Clocks.read(clock, "WEEK 8 PAY 50");
        abouts("by shifts, in week 0 and 1", clock, 5, 50001, 20101, 70201, 301, 20401);
        UnionClock other = Clocks.ofAllSkills();
        for (String rule : new String[] {"LONG 20 PAY 1", "REST 8 PAY 1", "LONG 8 PAY 1", "WEEK 15 PAY 1"}) {
            Clocks.read(other, rule);
        }
        Clocks.held(other, 40, 5, 3);
        Clocks.held(other, 20, 5, 3);
        Clocks.held(other, 4, 5, 3);
        abouts("none yet", other, 0);
        Clocks.passTo(other, 80);
        other.stamp(1, 12, 36);
        abouts("two of shift 0, four of shift 1, by rules", other, 0, 30001, 30003, 30100, 30101, 30102, 30103);
    }

    // ---- Claims: worth

    private static void worthInWords() {
        worthOfAllNumbers();
        worthWhenItIsAsked();
    }

    private static void worthOfAllNumbers() {
        due.sentence("Claims", "A claim is worth the hours of its shift times the wage of its worker "
                + "times the number behind PAY of its rule, divided by 100, rounded down");
        int[] wages = {0, 1, 3, 7, 10, 99, 999, 1000};
        for (int percent : new int[] {0, 1, 33, 49, 50, 99, 100, 101, 199, 200}) {
            UnionClock clock = Clocks.ofAllSkills();
            int shift = Clocks.held(clock, 10, 16, 0);
            Clocks.read(clock, "LONG 1 PAY " + percent);
            Clocks.passTo(clock, 60);
            for (int hours = 1; hours <= 24; hours++) {
                clock.stamp(shift, 20, 20 + hours);
                for (int wage : wages) {
                    clock.worker(0, 15, wage);
                    due.is(hours + " hours of " + wage + ", PAY " + percent, clock.worth(0),
                            hours * wage * percent / 100);
                }
            }
        }
        UnionClock most = withOneClaim();
        most.worker(0, 0, 1000);
        Clocks.read(most, "LONG 8 PAY 200");
        most.stamp(0, 20, 44);
        due.is("the most", most.worth(1), 48000);
        due.is("a cent less than one", ofOneHour(99), 0);
        due.is("one cent", ofOneHour(100), 1);
        due.is("a cent less than two", ofOneHour(199), 1);
        due.is("two cents", ofOneHour(200), 2);
    }

    private static int ofOneHour(int percent) {
        UnionClock clock = withOneClaim();
        clock.worker(0, 15, 1);
        Clocks.read(clock, "LONG 8 PAY " + percent);
        clock.stamp(0, 20, 21);
        return clock.worth(1);
    }

    private static void worthWhenItIsAsked() {
        due.sentence("Claims", "all as it is when it is asked; what was paid for it is what it was worth then.");
        UnionClock clock = withOneClaim();
        due.is("9 hours of 10", clock.worth(0), 45);
        clock.stamp(0, 20, 34);
        due.is("14 hours of 10", clock.worth(0), 70);
        clock.worker(0, 15, 30);
        due.is("14 hours of 30", clock.worth(0), 210);
        clock.worker(1, 15, 1000);
        due.is("paid", clock.pay(0), 210);
        clock.worker(0, 15, 100);
        due.is("a PAID one", clock.worth(0), 700);
        clock.hold(0, 1);
        due.is("an OWED one, of its worker, not the holder", clock.worth(0), 700);
        clock.stamp(0, 20, 30);
        due.is("an OWED one, with other hours", clock.worth(0), 500);
        due.is("what was paid", clock.wages(0), 210);
        due.is("what was paid", clock.takeBack(0), 210);
        due.is("a VOID one", clock.worth(0), 500);
        clock.drop(0);
        due.is("of a dropped rule", clock.worth(0), 500);
        clock.hold(0, NONE);
        due.is("of a shift that nobody holds", clock.worth(0), 500);
    }

    // ---- Promises 17 to 20: claims, state, about, worth

    private static void claims() {
        due.sentence("Promise 17", "Returns how many claims there are.");
        due.is("none", new UnionClock().claims(), 0);
        due.is("in all states", Clocks.busy().claims(), 8);
        due.is("199", Clocks.almostFullOfClaims().claims(), 199);
        UnionClock clock = withOneClaim();
        due.is("one", clock.claims(), 1);
        clock.hold(0, NONE);
        due.is("a VOID one", clock.claims(), 1);
        clock.hold(0, 1);
        due.is("a VOID one and an OPEN one", clock.claims(), 2);
        refused.changesNothing("claims", Clocks::busy, c -> c.claims());
    }

    private static UnionClock fullOfClaims() {
        UnionClock clock = Clocks.almostFullOfClaims();
        Clocks.held(clock, 370, 2, 3);
        return clock;
    }

    private static void outOfBounds(String what, Refusals.NumberCall call) {
        refused.outOfBoundsOutside(0, 7, what, Clocks::busy, call);
        refused.outOfBoundsOutside(0, -1, "of none, " + what, Clocks::fullOfShifts, call);
        refused.outOfBoundsOutside(0, 199, "of 200, " + what, ClaimsBoundsTest::fullOfClaims, call);
    }

    private static void state() {
        due.sentence("Promise 18", "Returns the state of a claim.", "Returns OPEN, PAID, VOID or OWED.");
        states("each", Clocks.busy(), BUSY_STATES);
        due.is("the last of 200", fullOfClaims().state(199), OPEN);
        refused.changesNothing("state", Clocks::busy, clock -> clock.state(1));
        due.sentence("Promise 18", "`claim`: the claim",
                "Throws `IndexOutOfBoundsException` if there is no such claim");
        outOfBounds("state", UnionClock::state);
    }

    private static void about() {
        due.sentence("Promise 19", "Returns of whom and of what a claim is.",
                "Returns 10000 times the worker, 100 times the shift, and the rule, together.");
        abouts("each", Clocks.busy(), 0, 100, 10200, 50600, 30700, 101, 102, 30703, 0);
        UnionClock clock = Clocks.fullOfShifts();
        for (int rule = 0; rule < 11; rule++) {
            Clocks.read(clock, "LONG 9 PAY 1");
        }
        clock.hold(39, 7);
        Clocks.read(clock, "LONG 8 PAY 1");
        due.is("the lowest", clock.about(0), 11);
        due.is("the highest", clock.about(39), 73911);
        clock.hold(39, NONE);
        due.is("the holder does not count", clock.about(39), 73911);
        refused.changesNothing("about", Clocks::busy, c -> c.about(1));
        due.sentence("Promise 19", "`claim`: the claim",
                "Throws `IndexOutOfBoundsException` if there is no such claim");
        outOfBounds("about", UnionClock::about);
    }

    private static void worth() {
        due.sentence("Promise 20", "Returns what a claim is worth.", "Returns the cents.");
        int[] cents = {45, 70, 300, 320, 18, 90, 64, 50};
        UnionClock clock = Clocks.busy();
        for (int claim = 0; claim < cents.length; claim++) {
            due.is("worth(" + claim + ")", clock.worth(claim), cents[claim]);
        }
        refused.changesNothing("worth", Clocks::busy, c -> c.worth(1));
        due.sentence("Promise 20", "`claim`: the claim",
                "Throws `IndexOutOfBoundsException` if there is no such claim");
        outOfBounds("worth", UnionClock::worth);
    }

    // ---- Promise 21: pay

    private static void pay() {
        due.sentence("Promise 21", "Pays a claim.", "Returns the cents.");
        int[] cents = {0, 0, 300, 320, 0, 90, 0, 50};
        for (int claim = 0; claim < cents.length; claim++) {
            if (BUSY_STATES[claim] == OPEN) {
                UnionClock clock = Clocks.busy();
                int worker = clock.about(claim) / 10000;
                int before = clock.wages(worker);
                due.is("pay(" + claim + ")", clock.pay(claim), cents[claim]);
                due.is("state(" + claim + ")", clock.state(claim), PAID);
                due.is("wages(" + worker + ")", clock.wages(worker), before + cents[claim]);
            }
        }
        payOfNothing();
        due.sentence("Promise 21", "`claim`: the claim",
                "Throws `IndexOutOfBoundsException` if there is no such claim");
        outOfBounds("pay", UnionClock::pay);
        due.sentence("Promise 21", "Throws `IllegalStateException` if it is not OPEN");
        for (int claim = 0; claim < BUSY_STATES.length; claim++) {
            int asked = claim;
            if (BUSY_STATES[claim] != OPEN) {
                refused.badState("pay of one in state " + BUSY_STATES[claim], Clocks::busy, clock -> clock.pay(asked));
            }
        }
    }

    private static void payOfNothing() {
        UnionClock clock = withOneClaim();
        clock.worker(0, 15, 0);
        due.is("nothing is worth", clock.pay(0), 0);
        due.is("PAID all the same", clock.state(0), PAID);
        due.badState("PAID all the same", () -> clock.pay(0));
        clock.hold(0, NONE);
        due.is("OWED all the same", clock.state(0), OWED);
        clock.worker(0, 15, 10);
        due.is("nothing was paid", clock.takeBack(0), 0);
        clock.hold(0, 0);
        due.is("paid again, as it is worth then", clock.pay(0), 45);
        clock.hold(0, NONE);
        clock.hold(0, 0);
        due.badState("PAID again by judging", () -> clock.pay(0));
        due.is("paid once", clock.wages(0), 90 + 45);
    }

    // ---- Promise 22: takeBack

    private static void takeBack() {
        due.sentence("Promise 22", "Takes back what was paid for a claim that is OWED, which is VOID then.",
                "Returns the cents.");
        UnionClock clock = Clocks.busy();
        due.is("wages before", clock.wages(1), 140 + 120);
        due.is("120, not 70", clock.takeBack(1), 120);
        due.is("VOID then", clock.state(1), VOID);
        due.is("wages behind", clock.wages(1), 140);
        clock.stamp(2, 30, 42);
        due.is("OPEN by judging, not PAID", clock.state(1), OPEN);
        due.is("nothing is paid", clock.wages(1), 240);
        due.sentence("Promise 22", "`claim`: the claim",
                "Throws `IndexOutOfBoundsException` if there is no such claim");
        outOfBounds("takeBack", UnionClock::takeBack);
        due.sentence("Promise 22", "Throws `IllegalStateException` if it is not OWED");
        for (int claim = 0; claim < BUSY_STATES.length; claim++) {
            int asked = claim;
            if (BUSY_STATES[claim] != OWED) {
                refused.badState("takeBack of one in state " + BUSY_STATES[claim], Clocks::busy,
                        c -> c.takeBack(asked));
            }
        }
        Refusals.Making takenBack = () -> {
            UnionClock made = Clocks.busy();
            made.takeBack(1);
            return made;
        };
        refused.badState("taken back already", takenBack, c -> c.takeBack(1));
    }

    // ---- Promise 23: wages

    private static void wages() {
        wagesOfHours();
        wagesUpToNow();
        wagesOfClaims();
        due.sentence("Promise 23", "`worker`: the worker", "Returns the cents.",
                "Throws `IndexOutOfBoundsException` if there is no such worker");
        int[] cents = {190 + 45 + 18, 140 + 120, 0, 0, 0, 0, 0, 0};
        for (int worker = 0; worker < 8; worker++) {
            due.is("wages(" + worker + ")", Clocks.busy().wages(worker), cents[worker]);
        }
        refused.changesNothing("wages", Clocks::busy, clock -> clock.wages(0));
        refused.outOfBoundsOutside(0, 7, "wages", Clocks::busy, UnionClock::wages);
        refused.outOfBoundsOutside(0, 7, "of none, wages", UnionClock::new, UnionClock::wages);
    }

    private static void wagesOfHours() {
        due.sentence("Promise 23", "Returns the wages of a worker: the hours of all shifts that the worker holds "
                + "and that have ended, by stamps, up to now, times the wage");
        UnionClock clock = Clocks.ofAllSkills();
        for (int shift = 0; shift < 40; shift++) {
            Clocks.held(clock, 16 * shift, 16, 0);
        }
        clock.worker(0, 0, 1000);
        due.is("at 0", clock.wages(0), 0);
        for (int now = 15; now < 96; now += 16) {
            Clocks.passTo(clock, now);
            due.is("at " + now, clock.wages(0), 1000 * (now - 15));
            clock.pass(1);
            due.is("at " + (now + 1), clock.wages(0), 1000 * (now + 1));
        }
        Clocks.passTo(clock, 640);
        due.is("the most", clock.wages(0), 640000);
        clock.hold(39, NONE);
        due.is("held no more", clock.wages(0), 624000);
        clock.worker(0, 15, 3);
        due.is("another wage, for all hours", clock.wages(0), 3 * 624);
    }

    private static void wagesUpToNow() {
        UnionClock clock = Clocks.ofAllSkills();
        int early = Clocks.held(clock, 50, 5, 0);
        int late = Clocks.held(clock, 10, 5, 0);
        Clocks.passTo(clock, 14);
        due.is("an hour ahead of the end", clock.wages(0), 0);
        clock.stamp(early, 13, 14);
        due.is("ended now, by stamps, planned for later", clock.wages(0), 10);
        clock.pass(1);
        due.is("the other ends now", clock.wages(0), 60);
        clock.stamp(late, 8, 15);
        due.is("its hours by stamps", clock.wages(0), 80);
        clock.hold(late, 1);
        due.is("the hours go with the shift", clock.wages(0), 10);
        due.is("times the wage of the holder", clock.wages(1), 140);
    }

    private static void wagesOfClaims() {
        due.sentence("Promise 23", "and all that was paid for claims of the worker and not taken back.");
        UnionClock clock = Clocks.ofAllSkills();
        for (int shift = 0; shift < 5; shift++) {
            Clocks.held(clock, 100 + 20 * shift, 9, 0);
        }
        Clocks.held(clock, 100, 9, 1);
        Clocks.read(clock, "LONG 8 PAY 50");
        due.is("OPEN ones do not count", clock.wages(0), 0);
        for (int claim = 0; claim < 5; claim++) {
            clock.pay(claim);
            due.is("PAID ones count", clock.wages(0), 45 * (claim + 1));
        }
        due.is("not those of another", clock.wages(1), 0);
        for (int shift = 0; shift < 5; shift++) {
            clock.hold(shift, NONE);
            due.is("OWED ones count", clock.wages(0), 225);
        }
        clock.worker(0, 15, 1000);
        for (int claim = 0; claim < 5; claim++) {
            due.is("as it was paid", clock.takeBack(claim), 45);
            due.is("those that are taken back do not count", clock.wages(0), 45 * (4 - claim));
        }
        clock.hold(0, 0);
        due.is("OPEN again does not count", clock.wages(0), 0);
        due.is("paid again", clock.pay(0), 4500);
        due.is("paid again", clock.wages(0), 4500);
    }
}
