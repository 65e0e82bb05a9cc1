import java.util.function.IntConsumer;
import java.util.function.IntSupplier;

/**
 * Tests that a call is refused and changes nothing: of two clocks with the same calls behind
 * them, the one that was refused a call besides must answer all later calls like the other.
 */
final class Refusals {
    interface Making {
        UnionClock clock();
    }

    interface Call {
        void on(UnionClock clock);
    }

    interface NumberCall {
        void on(UnionClock clock, int number);
    }

    /** Calls that together ask for all that a clock knows; each is made on clocks of its own. */
    private interface Probe {
        void ask(UnionClock clock, Answers answers);
    }

    private static final class Answers {
        private final StringBuilder text = new StringBuilder();

        /** Answers whether the call was not refused. */
        boolean add(IntSupplier call) {
            try {
                text.append(call.getAsInt()).append(' ');
                return true;
            } catch (RuntimeException e) {
                text.append(e.getClass().getSimpleName()).append(' ');
                return false;
            }
        }
    }

    private static final Probe[] PROBES = {
        Refusals::text, Refusals::rulesToCome, Refusals::ruleInTheText, Refusals::shifts, Refusals::shiftsToCome,
        (clock, answers) -> broken(clock, answers, 0), (clock, answers) -> broken(clock, answers, 4),
        (clock, answers) -> broken(clock, answers, 8), Refusals::weeks,
        (clock, answers) -> ofClaims(answers, clock, claim -> clock.state(claim)),
        (clock, answers) -> ofClaims(answers, clock, claim -> clock.about(claim)),
        (clock, answers) -> ofClaims(answers, clock, claim -> clock.worth(claim)),
        (clock, answers) -> ofClaims(answers, clock, claim -> clock.pay(claim)),
        (clock, answers) -> ofClaims(answers, clock, claim -> clock.takeBack(claim)),
        Refusals::offers, Refusals::swaps, Refusals::offersToCome, Refusals::time, Refusals::wages,
        (clock, answers) -> skills(clock, answers, 0), (clock, answers) -> skills(clock, answers, 4),
        Refusals::stamps, Refusals::drops,
    };

    private final Due due;

    Refusals(Due due) {
        this.due = due;
    }

    void outOfBounds(String what, Making making, Call call) {
        refused(what, IndexOutOfBoundsException.class, making, call);
    }

    void badArgument(String what, Making making, Call call) {
        refused(what, IllegalArgumentException.class, making, call);
    }

    void badState(String what, Making making, Call call) {
        refused(what, IllegalStateException.class, making, call);
    }

    /** No number outside of two bounds is one of a thing: those beside them, and the farthest. */
    void outOfBoundsOutside(int lowest, int highest, String what, Making making, NumberCall call) {
        outside(lowest, highest, number -> outOfBounds(what + " " + number, making, clock -> call.on(clock, number)));
    }

    void badArgumentOutside(int lowest, int highest, String what, Making making, NumberCall call) {
        outside(lowest, highest, number -> badArgument(what + " " + number, making, clock -> call.on(clock, number)));
    }

    private static void outside(int lowest, int highest, IntConsumer test) {
        int[] numbers = {lowest - 1, highest + 1, highest + 256, Integer.MIN_VALUE, Integer.MIN_VALUE + 1,
            Integer.MAX_VALUE - 1, Integer.MAX_VALUE};
        for (int number : numbers) {
            test.accept(number);
        }
    }

    private void refused(String what, Class<? extends RuntimeException> want, Making making, Call call) {
        UnionClock asked = making.clock();
        due.fails(what, want, () -> call.on(asked));
        due.fails(what + ", asked again", want, () -> call.on(asked));
        changesNothing(what, making, call);
    }

    /** For calls that are refused, and for those that only ask. */
    void changesNothing(String what, Making making, Call call) {
        for (int i = 0; i < PROBES.length; i++) {
            UnionClock changed = making.clock();
            tryOn(changed, call);
            due.same(what + ", probe " + i + " behind it", answers(PROBES[i], changed),
                    answers(PROBES[i], making.clock()));
        }
    }

    private static void tryOn(UnionClock clock, Call call) {
        try {
            call.on(clock);
        } catch (RuntimeException e) {
            return;
        }
    }

    private static String answers(Probe probe, UnionClock clock) {
        Answers answers = new Answers();
        probe.ask(clock, answers);
        return answers.text.toString();
    }

    private static void text(UnionClock clock, Answers answers) {
        answers.add(clock::wrongAt);
        for (int i = 0; i < 41; i++) {
            answers.add(() -> clock.put(' '));
        }
        answers.add(clock::wrongAt);
        answers.add(clock::empty);
        answers.add(clock::wrongAt);
    }

    private static void rulesToCome(UnionClock clock, Answers answers) {
        clock.empty();
        Clocks.put(clock, "LONG 1 PAY 1");
        answers.add(clock::read);
        answers.add(clock::empty);
        answers.add(clock::claims);
    }

    private static void ruleInTheText(UnionClock clock, Answers answers) {
        int[] rule = {0};
        if (answers.add(() -> rule[0] = clock.read())) {
            for (int shift = 0; answers.add(breaks(clock, shift, rule[0])); shift++) {
                continue;
            }
            answers.add(() -> clock.worth(clock.claims() - 1));
        }
    }

    private static IntSupplier breaks(UnionClock clock, int shift, int rule) {
        return () -> clock.breaks(shift, rule) ? 1 : 0;
    }

    private static void shifts(UnionClock clock, Answers answers) {
        for (int i = 0; i <= 40; i++) {
            int shift = i;
            answers.add(() -> clock.holder(shift));
            answers.add(() -> clock.rest(shift));
        }
        for (int i = 0; i < 8; i++) {
            int worker = i;
            for (int[] place = {0}; answers.add(() -> clock.shiftOf(worker, place[0])); place[0]++) {
                continue;
            }
        }
    }

    private static void shiftsToCome(UnionClock clock, Answers answers) {
        for (int i = 0; i <= 40; i++) {
            answers.add(() -> clock.shift(5, 5, 0));
        }
    }

    private static void broken(UnionClock clock, Answers answers, int firstRule) {
        for (int rule = firstRule; rule < firstRule + 4; rule++) {
            for (int shift = 0; answers.add(breaks(clock, shift, rule)); shift++) {
                continue;
            }
        }
    }

    private static void weeks(UnionClock clock, Answers answers) {
        for (int i = 0; i < 8; i++) {
            int worker = i;
            answers.add(() -> clock.wages(worker));
            for (int j = 0; j < 12; j++) {
                int week = j;
                answers.add(() -> clock.breaches(worker, week));
            }
        }
    }

    private interface OfClaim {
        int answer(int claim);
    }

    private static void ofClaims(Answers answers, UnionClock clock, OfClaim ofClaim) {
        int claims = clock.claims();
        answers.add(() -> claims);
        for (int i = 0; i <= claims; i++) {
            int claim = i;
            answers.add(() -> ofClaim.answer(claim));
        }
    }

    private static void offers(UnionClock clock, Answers answers) {
        answers.add(clock::offers);
        for (int i = 0; i <= 40; i++) {
            int offer = i;
            answers.add(() -> clock.ring(offer));
        }
        for (int i = 0; i <= 40; i++) {
            int offer = i;
            answers.add(() -> clock.withdraw(offer));
        }
    }

    private static void swaps(UnionClock clock, Answers answers) {
        for (int i = 0; i <= 40; i++) {
            int offer = i;
            answers.add(() -> clock.swap(offer));
        }
        shifts(clock, answers);
    }

    private static void offersToCome(UnionClock clock, Answers answers) {
        for (int i = 0; i < 100; i++) {
            int gives = i / 10;
            int wants = i % 10;
            answers.add(() -> clock.offer(gives, wants));
        }
    }

    private static void time(UnionClock clock, Answers answers) {
        for (int i = 0; i < 12; i++) {
            int hours = i < 2 ? 1 : 200;
            answers.add(() -> clock.pass(hours));
            for (int j = 0; j < 8; j++) {
                int worker = j;
                answers.add(() -> clock.wages(worker));
            }
        }
    }

    private static void wages(UnionClock clock, Answers answers) {
        for (int i = 0; i < 8; i++) {
            int worker = i;
            answers.add(() -> clock.worker(worker, 0, 0));
        }
    }

    private static void skills(UnionClock clock, Answers answers, int firstWorker) {
        for (int i = firstWorker; i < firstWorker + 4; i++) {
            int worker = i;
            for (int[] shift = {0}; shift[0] < 40; shift[0]++) {
                answers.add(() -> clock.hold(shift[0], worker));
            }
        }
    }

    private static void stamps(UnionClock clock, Answers answers) {
        for (int i = 0; i < 40; i++) {
            int shift = i;
            answers.add(() -> clock.stamp(shift, 0, 1));
        }
        answers.add(clock::claims);
    }

    private static void drops(UnionClock clock, Answers answers) {
        for (int i = 0; i <= 12; i++) {
            int rule = i;
            answers.add(() -> clock.drop(rule));
        }
    }
}
