/** Promises 17 to 23: claims that are made, made void, paid and owed back, and wages. */
public final class ClaimsTest {
    private static final int OPEN = 0;
    private static final int PAID = 1;
    private static final int VOID = 2;
    private static final int OWED = 3;

    private static final Due due = new Due();

    public static void main(String[] args) {
        claims();
        claimsInOrder();
        mostClaims();
        state();
        stateOfOtherShifts();
        about();
        worth();
        pay();
        takeBack();
        wages();
        wagesOfClaims();
        due.end();
    }

    private static void claims() {
        due.promise("Promise 17: claims");
        UnionClock clock = Clocks.ofAllSkills();
        due.is("none at first", clock.claims(), 0);
        int shift = clock.shift(0, 9, 0);
        Clocks.read(clock, "LONG 8 PAY 50");
        due.is("not held", clock.claims(), 0);
        clock.hold(shift, 0);
        due.is("held", clock.claims(), 1);
        clock.hold(shift, -1);
        due.is("a VOID one counts", clock.claims(), 1);
        clock.hold(shift, 1);
        due.is("another worker, another claim", clock.claims(), 2);
        clock.hold(shift, 0);
        due.is("at most one for the same three", clock.claims(), 2);
        Clocks.passTo(clock, 30);
        clock.stamp(shift, 0, 4);
        due.is("stamps make it VOID", clock.state(0), VOID);
        clock.stamp(shift, 0, 10);
        due.is("at most one for the same three", clock.claims(), 2);
        due.is("stamps make it OPEN", clock.state(0), OPEN);
        Clocks.read(clock, "LONG 8 PAY 50");
        due.is("another rule, another claim", clock.claims(), 3);
        clock.drop(0);
        due.is("a dropped rule", clock.claims(), 3);
        Clocks.held(clock, 100, 9, 0);
        due.is("another shift, another claim", clock.claims(), 4);
        due.is("of the rule that holds", clock.about(3), 101);
    }

    private static void claimsInOrder() {
        due.promise("Promise 17: claims, by rising shifts and rules");
        UnionClock clock = Clocks.ofAllSkills();
        Clocks.read(clock, "REST 8 PAY 1");
        Clocks.read(clock, "LONG 20 PAY 1");
        int late = Clocks.held(clock, 40, 5, 0);
        int middle = Clocks.held(clock, 20, 5, 0);
        due.is("none yet", clock.claims(), 0);
        Clocks.passTo(clock, 80);
        clock.stamp(middle, 12, 36);
        due.is("two at once", clock.claims(), 2);
        due.is("the lower shift first", clock.about(0), 100 * late);
        due.is("then the higher", clock.about(1), 100 * middle + 1);
        clock.hold(Clocks.held(clock, 8, 3, 1), 0);
        due.is("one more", clock.about(2), 100 * middle);
        due.is("one more", clock.claims(), 3);
    }

    private static void mostClaims() {
        due.promise("Promise 17: claims, at most 200");
        UnionClock clock = Clocks.ofAllSkills();
        for (int shift = 0; shift < 20; shift++) {
            Clocks.held(clock, 10 * shift, 5, 0);
        }
        for (int rule = 0; rule < 11; rule++) {
            Clocks.read(clock, "LONG 4 PAY 50");
        }
        due.is("claims()", clock.claims(), 200);
        due.is("the last one", clock.about(199), 1909);
        due.outOfBounds("no claim 200", () -> clock.state(200));
        due.yes("the rule without claims is broken", clock.breaks(0, 10));
        due.is("it lapses for none", clock.drop(10), 0);
        due.is("the others still live", clock.drop(9), 20);
        due.is("VOID", clock.state(199), VOID);
        clock.hold(0, 1);
        due.is("no claim is made any more", clock.claims(), 200);
        due.is("but made VOID", clock.state(0), VOID);
        due.is("the others stay", clock.state(1), OPEN);
        clock.hold(0, 0);
        due.is("and made OPEN", clock.state(0), OPEN);
    }

    private static void state() {
        due.promise("Promise 18: state");
        UnionClock clock = Clocks.ofAllSkills();
        due.outOfBounds("no claim 0", () -> clock.state(0));
        int shift = Clocks.held(clock, 0, 9, 0);
        int rule = Clocks.read(clock, "LONG 8 PAY 50");
        due.is("a new one", clock.state(0), OPEN);
        clock.hold(shift, -1);
        due.is("OPEN becomes", clock.state(0), VOID);
        clock.hold(shift, 0);
        due.is("VOID becomes", clock.state(0), OPEN);
        clock.pay(0);
        due.is("paid", clock.state(0), PAID);
        clock.hold(shift, 1);
        due.is("PAID becomes", clock.state(0), OWED);
        due.is("the claim of the other worker", clock.state(1), OPEN);
        clock.hold(shift, 0);
        due.is("OWED becomes", clock.state(0), PAID);
        due.is("the claim of the other worker", clock.state(1), VOID);
        clock.drop(rule);
        due.is("PAID becomes", clock.state(0), OWED);
        clock.takeBack(0);
        due.is("taken back", clock.state(0), VOID);
        due.outOfBounds("no claim 2", () -> clock.state(2));
        due.outOfBounds("no claim -1", () -> clock.state(-1));
        due.outOfBounds("no claim lowest", () -> clock.state(Integer.MIN_VALUE));
    }

    private static void stateOfOtherShifts() {
        due.promise("Promise 18: state, of shifts that did not change");
        UnionClock clock = Clocks.ofAllSkills();
        int first = Clocks.held(clock, 0, 9, 0);
        Clocks.held(clock, 12, 5, 0);
        Clocks.read(clock, "REST 8 PAY 50");
        due.is("3 hours of rest", clock.about(0), 100);
        due.is("OPEN", clock.state(0), OPEN);
        Clocks.passTo(clock, 30);
        clock.stamp(first, 0, 4);
        due.is("the shift ahead ended earlier", clock.state(0), VOID);
        clock.stamp(first, 0, 5);
        due.is("the shift ahead ended later", clock.state(0), OPEN);
        clock.pay(0);
        clock.hold(first, 3);
        due.is("the shift ahead is another's", clock.state(0), OWED);
        clock.worker(0, 0, 0);
        due.is("skills and wages are not judged", clock.state(0), OWED);
    }

    private static void about() {
        due.promise("Promise 19: about");
        UnionClock clock = Clocks.ofAllSkills();
        due.outOfBounds("no claim 0", () -> clock.about(0));
        for (int shift = 0; shift < 40; shift++) {
            clock.shift(20 * shift, 9, 0);
        }
        for (int rule = 0; rule < 11; rule++) {
            Clocks.read(clock, "LONG 16 PAY 1");
        }
        Clocks.read(clock, "LONG 8 PAY 1");
        clock.hold(39, 7);
        due.is("worker 7, shift 39, rule 11", clock.about(0), 73911);
        clock.hold(39, 0);
        due.is("it stays", clock.about(0), 73911);
        due.is("worker 0, shift 39, rule 11", clock.about(1), 3911);
        clock.hold(0, 2);
        due.is("worker 2, shift 0, rule 11", clock.about(2), 20011);
        due.outOfBounds("no claim 3", () -> clock.about(3));
        due.outOfBounds("no claim -1", () -> clock.about(-1));
    }

    private static void worth() {
        due.promise("Promise 20: worth");
        UnionClock clock = Clocks.ofAllSkills();
        due.outOfBounds("no claim 0", () -> clock.worth(0));
        int shift = Clocks.held(clock, 0, 9, 0);
        int rule = Clocks.read(clock, "LONG 5 PAY 50");
        due.is("9 hours of 10", clock.worth(0), 45);
        clock.worker(0, 15, 13);
        due.is("rounded down", clock.worth(0), 58);
        Clocks.passTo(clock, 50);
        clock.stamp(shift, 0, 7);
        due.is("7 hours of 13", clock.worth(0), 45);
        clock.pay(0);
        clock.worker(0, 15, 1000);
        due.is("a PAID one", clock.worth(0), 3500);
        clock.stamp(shift, 1, 3);
        due.is("an OWED one", clock.worth(0), 1000);
        clock.takeBack(0);
        due.is("a VOID one", clock.worth(0), 1000);
        clock.hold(shift, 1);
        due.is("of its worker, whoever holds the shift", clock.worth(0), 1000);
        clock.stamp(shift, 0, 24);
        due.is("the hours of the shift, whoever holds it", clock.worth(0), 12000);
        clock.drop(rule);
        due.is("of a dropped rule", clock.worth(0), 12000);
        clock.worker(0, 15, 0);
        due.is("a wage of 0", clock.worth(0), 0);
        int most = Clocks.read(clock, "LONG 5 PAY 200");
        int none = Clocks.read(clock, "LONG 5 PAY 0");
        clock.worker(1, 15, 1000);
        due.is("about", clock.about(2), 10000 + most);
        due.is("the most", clock.worth(2), 48000);
        due.is("about", clock.about(3), 10000 + none);
        due.is("nothing", clock.worth(3), 0);
        due.outOfBounds("no claim 4", () -> clock.worth(4));
        due.outOfBounds("no claim -1", () -> clock.worth(-1));
    }

    private static void pay() {
        due.promise("Promise 21: pay");
        UnionClock clock = Clocks.ofAllSkills();
        due.outOfBounds("no claim 0", () -> clock.pay(0));
        int shift = Clocks.held(clock, 100, 9, 2);
        Clocks.read(clock, "LONG 5 PAY 50");
        due.is("the cents", clock.pay(0), 135);
        due.is("PAID", clock.state(0), PAID);
        due.badState("paid already", () -> clock.pay(0));
        due.is("once", clock.wages(2), 135);
        clock.hold(shift, -1);
        due.badState("OWED", () -> clock.pay(0));
        clock.takeBack(0);
        due.badState("VOID", () -> clock.pay(0));
        due.is("nothing", clock.wages(2), 0);
        clock.hold(shift, 2);
        clock.worker(2, 15, 11);
        due.is("paid again", clock.pay(0), 49);
        due.is("paid again", clock.wages(2), 49);
        due.outOfBounds("no claim 1", () -> clock.pay(1));
        due.outOfBounds("no claim -1", () -> clock.pay(-1));
    }

    private static void takeBack() {
        due.promise("Promise 22: takeBack");
        UnionClock clock = Clocks.ofAllSkills();
        due.outOfBounds("no claim 0", () -> clock.takeBack(0));
        int shift = Clocks.held(clock, 100, 9, 2);
        Clocks.read(clock, "LONG 5 PAY 50");
        due.badState("OPEN", () -> clock.takeBack(0));
        due.is("pay", clock.pay(0), 135);
        due.badState("PAID", () -> clock.takeBack(0));
        clock.hold(shift, 1);
        clock.worker(2, 15, 500);
        due.is("OWED", clock.state(0), OWED);
        due.is("what was paid, not what it is worth", clock.takeBack(0), 135);
        due.is("VOID", clock.state(0), VOID);
        due.badState("VOID", () -> clock.takeBack(0));
        due.is("nothing is paid", clock.wages(2), 0);
        clock.hold(shift, 2);
        due.is("OPEN again, not PAID", clock.state(0), OPEN);
        due.is("the other claim", clock.state(1), VOID);
        due.badState("the other claim", () -> clock.takeBack(1));
        due.outOfBounds("no claim 2", () -> clock.takeBack(2));
        due.outOfBounds("no claim -1", () -> clock.takeBack(-1));
    }

    private static void wages() {
        due.promise("Promise 23: wages");
        UnionClock clock = Clocks.ofAllSkills();
        int first = Clocks.held(clock, 0, 10, 1);
        int second = Clocks.held(clock, 12, 8, 1);
        Clocks.held(clock, 5, 10, 2);
        due.is("none has ended", clock.wages(1), 0);
        clock.pass(9);
        due.is("none has ended at 9", clock.wages(1), 0);
        clock.pass(1);
        due.is("one has ended at 10", clock.wages(1), 200);
        due.is("another worker", clock.wages(2), 0);
        clock.pass(10);
        due.is("two have ended", clock.wages(1), 360);
        due.is("another worker", clock.wages(2), 300);
        clock.stamp(first, 0, 12);
        due.is("by stamps", clock.wages(1), 400);
        clock.worker(1, 0, 100);
        due.is("another wage", clock.wages(1), 2000);
        clock.hold(second, -1);
        due.is("held no more", clock.wages(1), 1200);
        clock.hold(first, 3);
        due.is("another's", clock.wages(1), 0);
        due.is("another's, by stamps", clock.wages(3), 480);
        int early = Clocks.held(clock, 30, 10, 5);
        due.is("begins later", clock.wages(5), 0);
        clock.stamp(early, 18, 20);
        due.is("but has ended, by stamps", clock.wages(5), 120);
        due.outOfBounds("worker 8", () -> clock.wages(8));
        due.outOfBounds("worker -1", () -> clock.wages(-1));
    }

    private static void wagesOfClaims() {
        due.promise("Promise 23: wages, of claims");
        UnionClock clock = Clocks.ofAllSkills();
        int first = Clocks.held(clock, 100, 10, 1);
        int second = Clocks.held(clock, 112, 8, 1);
        Clocks.held(clock, 112, 8, 2);
        Clocks.read(clock, "LONG 5 PAY 100");
        due.is("none is paid", clock.wages(1), 0);
        clock.pay(0);
        due.is("one is paid", clock.wages(1), 200);
        clock.pay(1);
        due.is("two are paid", clock.wages(1), 360);
        due.is("none of another", clock.wages(2), 0);
        clock.worker(1, 15, 1000);
        due.is("what was paid stays", clock.wages(1), 360);
        clock.hold(first, -1);
        due.is("OWED is not taken back", clock.wages(1), 360);
        clock.hold(first, 1);
        due.is("PAID again, not twice", clock.wages(1), 360);
        clock.hold(second, 3);
        clock.takeBack(1);
        due.is("taken back", clock.wages(1), 200);
        due.is("the new holder has an OPEN one", clock.wages(3), 0);
        Clocks.passTo(clock, 110);
        due.is("with the hours", clock.wages(1), 10200);
    }
}
