/** Promises 24 to 28: offers, rings of them, and swaps. */
public final class SwapsTest {
    private static final Due due = new Due();

    public static void main(String[] args) {
        offer();
        offerRefused();
        mostOffers();
        withdraw();
        offers();
        offersEndByHold();
        ring();
        ringWithAWorkerTwice();
        ringOfLowestOffers();
        ringOfEight();
        swapOfTwo();
        swapEndsOffers();
        swapMakesRoom();
        swapRefusedForOverlap();
        swapRefusedForSkill();
        swapRefusedForTime();
        swapMakesClaims();
        due.end();
    }

    /** Shifts 0, 1, .. are held by workers 0, 1, .., far enough apart for all swaps. */
    private static UnionClock clockOf(int workers) {
        UnionClock clock = Clocks.ofAllSkills();
        for (int worker = 0; worker < workers; worker++) {
            Clocks.held(clock, 100 + 20 * worker, 9, worker);
        }
        return clock;
    }

    private static void offer() {
        due.promise("Promise 24: offer");
        UnionClock clock = clockOf(3);
        due.is("the first", clock.offer(0, 1), 0);
        due.is("the other way", clock.offer(1, 0), 1);
        due.is("the same again", clock.offer(0, 1), 2);
        clock.withdraw(0);
        due.is("numbers go on", clock.offer(2, 0), 3);
        due.is("offers()", clock.offers(), 3);
        due.is("nothing is given yet", clock.holder(0), 0);
        clock.worker(0, 0, 0);
        due.is("skills are not asked", clock.offer(0, 2), 4);
    }

    private static void offerRefused() {
        due.promise("Promise 24: offer, refused");
        UnionClock clock = clockOf(2);
        int second = Clocks.held(clock, 200, 5, 0);
        int free = clock.shift(300, 5, 0);
        due.outOfBounds("gives 4", () -> clock.offer(4, 0));
        due.outOfBounds("wants 4", () -> clock.offer(0, 4));
        due.outOfBounds("gives -1", () -> clock.offer(-1, 0));
        due.outOfBounds("wants -1", () -> clock.offer(0, -1));
        due.outOfBounds("gives one that is not held, wants 4", () -> clock.offer(free, 4));
        due.badState("gives one that is not held", () -> clock.offer(free, 0));
        due.badState("wants one that is not held", () -> clock.offer(0, free));
        due.badState("neither is held", () -> clock.offer(free, free));
        due.badState("both of one worker", () -> clock.offer(0, second));
        due.badState("the same", () -> clock.offer(0, 0));
        Clocks.passTo(clock, 99);
        due.is("begins behind now", clock.offer(0, 1), 0);
        clock.pass(1);
        due.badState("gives one that begins now", () -> clock.offer(0, 1));
        due.badState("wants one that begins now", () -> clock.offer(1, 0));
        clock.stamp(second, 1, 5);
        due.is("as planned, not by stamps", clock.offer(1, second), 1);
        due.is("offers()", clock.offers(), 2);
    }

    private static void mostOffers() {
        due.promise("Promise 24: offer, at most 40");
        UnionClock clock = clockOf(2);
        for (int number = 0; number < 40; number++) {
            due.is("the next", clock.offer(number % 2, 1 - number % 2), number);
        }
        due.badState("40 were made", () -> clock.offer(0, 1));
        due.outOfBounds("no such shift comes first", () -> clock.offer(0, 2));
        due.is("offers()", clock.offers(), 40);
        due.is("withdraw(39)", clock.withdraw(39), 39);
        due.badState("40 were ever made", () -> clock.offer(0, 1));
        due.outOfBounds("no offer 40", () -> clock.ring(40));
    }

    private static void withdraw() {
        due.promise("Promise 25: withdraw");
        UnionClock clock = clockOf(3);
        due.outOfBounds("no offer 0", () -> clock.withdraw(0));
        clock.offer(0, 1);
        clock.offer(1, 0);
        clock.offer(1, 2);
        due.is("two are left", clock.withdraw(0), 2);
        due.badState("not there any more", () -> clock.withdraw(0));
        due.is("no ring without it", clock.ring(1), 0);
        due.is("one is left", clock.withdraw(2), 1);
        due.is("none is left", clock.withdraw(1), 0);
        due.badState("not there any more", () -> clock.withdraw(1));
        due.outOfBounds("no offer 3", () -> clock.withdraw(3));
        due.outOfBounds("no offer -1", () -> clock.withdraw(-1));
        clock.offer(0, 1);
        clock.hold(1, -1);
        due.badState("gone by hold", () -> clock.withdraw(3));
        due.is("offers()", clock.offers(), 0);
    }

    private static void offers() {
        due.promise("Promise 26: offers");
        UnionClock clock = clockOf(3);
        due.is("none", clock.offers(), 0);
        clock.offer(0, 1);
        due.is("one", clock.offers(), 1);
        clock.offer(1, 0);
        clock.offer(2, 0);
        due.is("three", clock.offers(), 3);
        clock.swap(0);
        due.is("two taken, one has lost its shift", clock.offers(), 0);
        clock.offer(0, 1);
        Clocks.passTo(clock, 500);
        due.is("time takes none away", clock.offers(), 1);
        due.is("nor from its ring", clock.withdraw(3), 0);
    }

    private static void offersEndByHold() {
        due.promise("Promise 26: offers, ended by hold");
        UnionClock clock = clockOf(4);
        clock.offer(0, 1);
        clock.offer(1, 2);
        clock.offer(2, 3);
        clock.hold(1, 1);
        due.is("the same worker", clock.offers(), 3);
        clock.worker(7, 0, 0);
        due.badState("a refused hold", () -> clock.hold(1, 7));
        due.is("a refused hold", clock.offers(), 3);
        clock.hold(1, 5);
        due.is("given or wanted", clock.offers(), 1);
        clock.hold(1, 1);
        due.is("they do not come back", clock.offers(), 1);
        due.is("nor their rings", clock.ring(0), 0);
        clock.hold(3, -1);
        due.is("wanted, held by nobody", clock.offers(), 0);
        Clocks.passTo(clock, 50);
        clock.offer(1, 2);
        clock.stamp(2, 10, 20);
        due.is("stamps take none away", clock.offers(), 1);
    }

    private static void ring() {
        due.promise("Promise 27: ring");
        UnionClock clock = clockOf(4);
        due.outOfBounds("no offer 0", () -> clock.ring(0));
        clock.offer(0, 1);
        due.is("alone", clock.ring(0), 0);
        clock.offer(1, 2);
        due.is("two in a row", clock.ring(0), 0);
        clock.offer(2, 0);
        due.is("three", clock.ring(0), 3);
        due.is("three", clock.ring(1), 3);
        due.is("three", clock.ring(2), 3);
        clock.offer(3, 1);
        due.is("not in the ring that it leads to", clock.ring(3), 0);
        clock.withdraw(2);
        due.is("broken", clock.ring(0), 0);
        clock.offer(2, 1);
        due.is("two", clock.ring(1), 2);
        due.is("two", clock.ring(4), 2);
        due.is("a worker would be twice in it", clock.ring(0), 0);
        due.is("not there any more", clock.ring(2), 0);
        due.outOfBounds("no offer 5", () -> clock.ring(5));
        due.outOfBounds("no offer -1", () -> clock.ring(-1));
        due.outOfBounds("no offer highest", () -> clock.ring(Integer.MAX_VALUE));
        int second = Clocks.held(clock, 400, 5, 0);
        clock.offer(1, second);
        clock.withdraw(1);
        clock.offer(second, 2);
        due.is("0 -> 1 -> second, of worker 0 again", clock.ring(0), 0);
        due.is("1 -> second -> 2 -> 1", clock.ring(5), 3);
        Clocks.passTo(clock, 350);
        due.is("time takes no ring away", clock.ring(5), 3);
    }

    private static void ringWithAWorkerTwice() {
        due.promise("Promise 27: ring, a worker twice in it");
        UnionClock clock = clockOf(3);
        int second = Clocks.held(clock, 400, 5, 0);
        clock.offer(0, 1);
        clock.offer(1, second);
        clock.offer(second, 2);
        clock.offer(2, 0);
        for (int offer = 0; offer < 4; offer++) {
            int asked = offer;
            due.is("it would end, with worker 0 twice", clock.ring(offer), 0);
            due.badState("it would end, with worker 0 twice", () -> clock.swap(asked));
        }
        clock.hold(second, 3);
        clock.offer(1, second);
        clock.offer(second, 2);
        due.is("another worker", clock.ring(0), 4);
    }

    private static void ringOfLowestOffers() {
        due.promise("Promise 27: ring, the lowest offer comes next");
        UnionClock clock = clockOf(4);
        clock.offer(0, 1);
        clock.offer(1, 3);
        clock.offer(1, 0);
        due.is("the lowest leads nowhere", clock.ring(0), 0);
        due.is("the first one need not be the lowest", clock.ring(2), 2);
        clock.offer(3, 0);
        due.is("the lowest", clock.ring(0), 3);
        clock.withdraw(1);
        due.is("the next lowest", clock.ring(0), 2);
        clock.offer(0, 3);
        due.is("behind 3 comes 0, which wants 1", clock.ring(3), 0);
        due.is("from the higher one", clock.ring(4), 2);
    }

    private static void ringOfEight() {
        due.promise("Promise 27: ring, of 8");
        UnionClock clock = clockOf(8);
        for (int worker = 7; worker >= 0; worker--) {
            clock.offer(worker, (worker + 1) % 8);
        }
        for (int offer = 0; offer < 8; offer++) {
            due.is("eight", clock.ring(offer), 8);
        }
        due.is("swap", clock.swap(5), 0);
        for (int shift = 0; shift < 8; shift++) {
            due.is("one back", clock.holder(shift), (shift + 7) % 8);
        }
        due.is("all are taken", clock.offers(), 0);
    }

    private static void swapOfTwo() {
        due.promise("Promise 28: swap");
        UnionClock clock = clockOf(3);
        due.outOfBounds("no offer 0", () -> clock.swap(0));
        clock.offer(0, 1);
        due.badState("no ring", () -> clock.swap(0));
        clock.offer(1, 0);
        clock.offer(2, 1);
        due.badState("no ring", () -> clock.swap(2));
        due.is("no claims", clock.swap(1), 0);
        due.is("0 has 1", clock.holder(1), 0);
        due.is("1 has 0", clock.holder(0), 1);
        due.is("2 has 2", clock.holder(2), 2);
        due.is("in the order, too", clock.shiftOf(0, 0), 1);
        due.outOfBounds("in the order, too", () -> clock.shiftOf(0, 1));
        due.badState("taken", () -> clock.swap(0));
        due.badState("taken", () -> clock.swap(1));
        due.outOfBounds("no offer 3", () -> clock.swap(3));
        due.outOfBounds("no offer -1", () -> clock.swap(-1));
    }

    private static void swapEndsOffers() {
        due.promise("Promise 28: swap, the offers that are there then");
        UnionClock clock = clockOf(4);
        clock.offer(0, 1);
        clock.offer(1, 0);
        clock.offer(0, 1);
        clock.offer(0, 2);
        clock.offer(3, 1);
        clock.offer(2, 3);
        clock.offer(3, 2);
        clock.swap(0);
        due.is("those without a shift of the ring", clock.offers(), 2);
        due.is("they have their ring", clock.ring(5), 2);
        due.is("the others are gone", clock.ring(2), 0);
        due.badState("the others are gone", () -> clock.withdraw(3));
        due.badState("the others are gone", () -> clock.withdraw(4));
    }

    private static void swapMakesRoom() {
        due.promise("Promise 28: swap, the others being given");
        UnionClock clock = Clocks.ofAllSkills();
        int first = Clocks.held(clock, 100, 10, 0);
        int second = Clocks.held(clock, 105, 10, 1);
        due.badState("it overlaps with the own one", () -> clock.hold(second, 0));
        clock.offer(first, second);
        clock.offer(second, first);
        due.is("the own one is given", clock.swap(0), 0);
        due.is("swapped", clock.holder(first), 1);
        due.is("swapped", clock.holder(second), 0);
    }

    private static void swapRefusedForOverlap() {
        due.promise("Promise 28: swap, overlaps");
        UnionClock clock = clockOf(3);
        int other = Clocks.held(clock, 128, 2, 2);
        clock.offer(2, 1);
        clock.offer(1, 2);
        clock.offer(0, 1);
        clock.offer(1, 0);
        due.badState("another shift of 2 overlaps with 1", () -> clock.swap(0));
        due.badState("from the other end", () -> clock.swap(1));
        due.is("nothing is given", clock.holder(1), 1);
        due.is("nothing is given", clock.holder(2), 2);
        due.is("no offer is taken", clock.offers(), 4);
        clock.hold(other, -1);
        due.is("free", clock.swap(0), 0);
        due.is("given", clock.holder(1), 2);
        due.is("one of another worker is no hindrance", clock.hold(other, 0), -1);
    }

    private static void swapRefusedForSkill() {
        due.promise("Promise 28: swap, skills");
        UnionClock clock = Clocks.ofAllSkills();
        for (int shift = 0; shift < 3; shift++) {
            clock.shift(100 + 20 * shift, 9, shift);
            clock.hold(shift, shift);
        }
        clock.offer(0, 1);
        clock.offer(1, 2);
        clock.offer(2, 0);
        clock.worker(2, 14, 10);
        due.badState("2 cannot have 0", () -> clock.swap(0));
        due.badState("2 cannot have 0", () -> clock.swap(2));
        due.is("the ring is there", clock.ring(0), 3);
        due.is("nothing is given", clock.holder(0), 0);
        clock.worker(2, 1, 10);
        clock.worker(1, 4, 10);
        clock.worker(0, 2, 10);
        due.is("each has the one skill", clock.swap(1), 0);
        due.is("given", clock.holder(0), 2);
        due.is("given", clock.holder(1), 0);
        due.is("given", clock.holder(2), 1);
    }

    private static void swapRefusedForTime() {
        due.promise("Promise 28: swap, time");
        UnionClock clock = clockOf(3);
        clock.offer(2, 1);
        clock.offer(1, 2);
        clock.offer(0, 1);
        clock.offer(1, 0);
        clock.withdraw(1);
        Clocks.passTo(clock, 100);
        due.is("the ring is there", clock.ring(2), 2);
        due.badState("shift 0 begins now", () -> clock.swap(2));
        due.badState("shift 0 begins now", () -> clock.swap(3));
        due.is("nothing is given", clock.holder(0), 0);
        clock.withdraw(3);
        clock.offer(1, 2);
        clock.pass(19);
        due.is("shift 1 begins behind now", clock.swap(4), 0);
        due.is("given", clock.holder(1), 2);
        clock.offer(2, 1);
        clock.offer(1, 2);
        clock.pass(1);
        due.badState("shift 1 begins now", () -> clock.swap(5));
        due.is("the offer stays", clock.withdraw(5), 1);
    }

    private static void swapMakesClaims() {
        due.promise("Promise 28: swap, claims");
        UnionClock clock = clockOf(3);
        Clocks.read(clock, "LONG 8 PAY 50");
        due.is("claims()", clock.claims(), 3);
        clock.offer(0, 1);
        clock.offer(1, 2);
        clock.offer(2, 0);
        due.is("three more", clock.swap(0), 3);
        due.is("claims()", clock.claims(), 6);
        int[] abouts = {0, 10100, 20200, 20000, 100, 10200};
        int[] states = {2, 2, 2, 0, 0, 0};
        for (int claim = 0; claim < abouts.length; claim++) {
            due.is("about(" + claim + ")", clock.about(claim), abouts[claim]);
            due.is("state(" + claim + ")", clock.state(claim), states[claim]);
        }
        clock.offer(0, 1);
        clock.offer(1, 2);
        clock.offer(2, 0);
        due.is("three other pairs", clock.swap(3), 3);
        clock.offer(0, 1);
        clock.offer(1, 2);
        clock.offer(2, 0);
        due.is("revived ones are no more", clock.swap(6), 0);
        due.is("revived", clock.state(0), 0);
        due.is("void", clock.state(3), 2);
        due.is("claims()", clock.claims(), 9);
    }
}
