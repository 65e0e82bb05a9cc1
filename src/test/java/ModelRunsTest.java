import java.util.ArrayDeque;
import java.util.ArrayList;
import java.util.Arrays;
import java.util.Deque;
import java.util.HashSet;
import java.util.List;
import java.util.Random;
import java.util.Set;
import java.util.function.ToIntBiFunction;
import java.util.function.ToIntFunction;

/** Promises 1 to 28: long runs of calls, each answer held against that of the model. */
public final class ModelRunsTest {
    private static final int RUNS = Integer.getInteger("runs", 2500);
    private static final int CALLS = 512;
    private static final int OF_CLAIMS = 1;
    /** So many answers of each call are due in 2500 runs, or the runs test too little. */
    private static final int LEAST_ANSWERS = 400;
    private static final String[] NAMES = {
        "pass", "worker", "shift", "hold", "stamp", "holder", "shiftOf", "rest",
        "put", "empty", "wrongAt", "read", "drop", "breaks", "breaches",
        "claims", "state", "about", "worth", "pay", "takeBack", "wages",
        "offer", "withdraw", "offers", "ring", "swap",
    };
    /** How often each call is made: rows for runs of all things, of claims, of swaps, and of texts. */
    private static final int[][] WEIGHTS = {
        {6, 4, 9, 22, 10, 3, 6, 6, 1, 1, 2, 12, 2, 6, 5, 2, 5, 3, 5, 7, 5, 6, 12, 3, 2, 6, 6},
        {4, 2, 12, 30, 14, 1, 2, 2, 1, 0, 0, 12, 2, 3, 3, 3, 9, 5, 5, 12, 9, 6, 1, 0, 0, 0, 0},
        {2, 2, 16, 34, 1, 5, 2, 1, 0, 0, 0, 3, 0, 1, 1, 2, 3, 2, 2, 2, 2, 2, 9, 2, 5, 10, 9},
        {2, 1, 4, 8, 2, 1, 1, 1, 20, 4, 20, 16, 3, 5, 5, 3, 3, 3, 3, 3, 3, 3, 1, 1, 1, 1, 1},
    };

    private static final int[] made = new int[NAMES.length];
    private static final int[] refused = new int[NAMES.length];

    private final Random random;
    private final int[] weights;
    /** Whether the rules are broken by almost all shifts, so that 200 claims are reached. */
    private final boolean isHarsh;
    /** How many hours and workers the run spreads over: the fewer, the more shifts meet. */
    private final int lastHour;
    private final int workers;
    private final UnionClock clock = new UnionClock();
    private final Model model = new Model();
    private final Deque<Character> toPut = new ArrayDeque<>();
    private int now;
    private final int[] begins = new int[40];
    private int shifts;
    private int rules;
    private int offers;
    private int calls;
    private String trace = "";

    private ModelRunsTest(int seed) {
        random = new Random(seed);
        weights = WEIGHTS[seed % WEIGHTS.length];
        isHarsh = seed % WEIGHTS.length == OF_CLAIMS;
        lastHour = new int[] {60, 200, 600, 2000}[random.nextInt(4)];
        workers = 2 + random.nextInt(7);
    }

    public static void main(String[] args) {
        int wrong = 0;
        for (int seed = 0; seed < RUNS && wrong < 3; seed++) {
            ModelRunsTest run = new ModelRunsTest(seed);
            if (!run.isAsDue()) {
                wrong++;
                System.out.println("run " + seed + ", call " + run.calls + ": " + run.trace);
            }
        }
        for (int call = 0; call < NAMES.length; call++) {
            if (RUNS >= 2500 && made[call] - refused[call] < LEAST_ANSWERS) {
                wrong++;
                System.out.println(NAMES[call] + " was answered too seldom to be tested: " + made[call]);
            }
        }
        System.out.println(Arrays.stream(made).sum() + " calls, " + Arrays.stream(refused).sum() + " refused");
        if (wrong != 0) {
            System.exit(1);
        }
    }

    private boolean isAsDue() {
        for (int worker = 0; worker < workers; worker++) {
            int number = worker;
            int skills = random.nextInt(3) == 0 ? random.nextInt(16) : 15;
            int wage = random.nextInt(60);
            if (!same(1, c -> c.worker(number, skills, wage), m -> m.worker(number, skills, wage))) {
                return false;
            }
        }
        while (calls < CALLS) {
            if (!(toPut.isEmpty() ? next(pick()) : putNext())) {
                return false;
            }
        }
        return true;
    }

    private int pick() {
        int at = random.nextInt(Arrays.stream(weights).sum());
        int call = 0;
        while (at >= weights[call]) {
            at -= weights[call];
            call++;
        }
        return call;
    }

    private boolean putNext() {
        char letter = toPut.poll();
        return same(8, c -> c.put(letter), m -> m.put(letter));
    }

    private boolean next(int call) {
        switch (call) {
            case 0: return pass();
            case 1: return worker();
            case 2: return shift();
            case 3: return with(call, shiftNumber(), random.nextInt(8) == 0 ? NONE_OR_ODD[random.nextInt(4)]
                    : random.nextInt(workers), UnionClock::hold, Model::hold);
            case 4: return stamp();
            case 5: return with(call, shiftNumber(), UnionClock::holder, Model::holder);
            case 6: return with(call, workerNumber(), random.nextInt(6) - 1, UnionClock::shiftOf, Model::shiftOf);
            case 7: return with(call, shiftNumber(), UnionClock::rest, Model::rest);
            case 8: return put();
            case 9: return same(call, UnionClock::empty, Model::empty);
            case 10: return same(call, UnionClock::wrongAt, Model::wrongAt);
            case 11: return read();
            case 12: return with(call, ruleNumber(), UnionClock::drop, Model::drop);
            case 13: return with(call, shiftNumber(), ruleNumber(), (c, a, b) -> c.breaks(a, b) ? 1 : 0, Model::breaks);
            case 14: return with(call, workerNumber(), random.nextInt(3 + lastHour / 168) - 1,
                    UnionClock::breaches, Model::breaches);
            case 15: return same(call, UnionClock::claims, Model::claims);
            case 16: return with(call, claimNumber(), UnionClock::state, Model::state);
            case 17: return with(call, claimNumber(), UnionClock::about, Model::about);
            case 18: return with(call, claimNumber(), UnionClock::worth, Model::worth);
            case 19: return with(call, claimNumber(), UnionClock::pay, Model::pay);
            case 20: return with(call, claimIn(3), UnionClock::takeBack, Model::takeBack);
            case 21: return with(call, workerNumber(), UnionClock::wages, Model::wages);
            case 22: return offer();
            case 23: return with(call, offerNumber(), UnionClock::withdraw, Model::withdraw);
            case 24: return same(call, UnionClock::offers, Model::offers);
            case 25: return with(call, offerNumber(), UnionClock::ring, Model::ring);
            default: return with(call, ringedOffer(), UnionClock::swap, Model::swap);
        }
    }

    private static final int[] NONE_OR_ODD = {-1, -1, 8, -2};

    private boolean pass() {
        int hours = random.nextInt(12) == 0 ? random.nextInt(260) - 20 : 1 + random.nextInt(1 + lastHour / 40);
        boolean same = with(0, hours, UnionClock::pass, Model::pass);
        if (same && hours >= 1 && hours <= 200 && now + hours <= 2000) {
            now += hours;
        }
        return same;
    }

    private boolean worker() {
        int worker = workerNumber();
        int skills = random.nextInt(10) == 0 ? random.nextInt(20) - 2 : random.nextInt(2) == 0 ? 15 : random.nextInt(16);
        int wage = random.nextInt(10) == 0 ? random.nextInt(1400) - 200 : random.nextInt(90);
        return same(1, c -> c.worker(worker, skills, wage), m -> m.worker(worker, skills, wage));
    }

    private boolean shift() {
        int begin = random.nextInt(20) == 0 ? random.nextInt(2300) - 100 : random.nextInt(lastHour + 1);
        int hours = random.nextInt(20) == 0 ? random.nextInt(20) - 1 : 1 + random.nextInt(16);
        int skill = random.nextInt(20) == 0 ? random.nextInt(7) - 1 : random.nextInt(4);
        if (begin >= 0 && begin <= 2000 && hours >= 1 && hours <= 16 && skill >= 0 && skill <= 3
                && shifts < begins.length) {
            begins[shifts] = begin;
            shifts++;
        }
        return same(2, c -> c.shift(begin, hours, skill), m -> m.shift(begin, hours, skill));
    }

    private boolean stamp() {
        int shift = shiftNumber();
        int begin = now - random.nextInt(Math.min(now, 70) + 2) + (random.nextInt(20) == 0 ? 1 : 0);
        int end = begin + random.nextInt(14) + (random.nextInt(4) == 0 ? 11 : 1);
        return same(4, c -> c.stamp(shift, begin, end), m -> m.stamp(shift, begin, end));
    }

    private boolean put() {
        int shape = random.nextInt(3);
        char letter = shape == 0 ? (char) random.nextInt(300) : "AKLIPSY 0123".charAt(random.nextInt(12));
        return same(8, c -> c.put(letter), m -> m.put(letter));
    }

    private boolean read() {
        if (random.nextInt(9) != 0) {
            for (char letter : ruleText().toCharArray()) {
                toPut.add(letter);
            }
            while (calls < CALLS && !toPut.isEmpty()) {
                if (!putNext()) {
                    return false;
                }
            }
        }
        boolean same = same(10, UnionClock::wrongAt, Model::wrongAt);
        if (same && model.wrongAt() == -1) {
            rules = Math.min(12, rules + 1);
        }
        boolean sameRead = same && same(11, UnionClock::read, Model::read);
        return sameRead && (model.wrongAt() == -1 || random.nextInt(2) == 0
                || same(9, UnionClock::empty, Model::empty));
    }

    private String ruleText() {
        int kind = random.nextInt(4);
        int[] most = isHarsh ? new int[] {200, 8, 1, 3} : new int[] {40, 60, 4, 18};
        StringBuilder words = new StringBuilder();
        words.append(new String[] {"REST", "WEEK", "ROW", "LONG"}[kind]).append(' ');
        words.append(random.nextInt(25) == 0 ? random.nextInt(260) : 1 + random.nextInt(most[kind])).append(' ');
        if (random.nextInt(4) == 0) {
            words.append("SKILL ").append(random.nextInt(random.nextInt(6) == 0 ? 12 : 4)).append(' ');
        }
        words.append("PAY ").append(random.nextInt(12) == 0 ? random.nextInt(260) : random.nextInt(100));
        if (random.nextInt(6) == 0) {
            words.insert(random.nextInt(words.length() + 1), ' ');
        }
        if (random.nextInt(12) == 0) {
            words.deleteCharAt(random.nextInt(words.length()));
        }
        if (random.nextInt(14) == 0) {
            words.insert(random.nextInt(words.length() + 1), "0SP9 ".charAt(random.nextInt(5)));
        }
        if (random.nextInt(14) == 0) {
            words.setLength(random.nextInt(words.length() + 1));
        }
        return words.toString();
    }

    private boolean offer() {
        if (random.nextInt(6) != 0) {
            return offer(shiftNumber(), shiftNumber());
        }
        List<Integer> ring = someOfDistinctWorkers();
        for (int i = 0; i < ring.size(); i++) {
            if (!offer(ring.get(i), ring.get((i + 1) % ring.size()))) {
                return false;
            }
        }
        return true;
    }

    private boolean offer(int gives, int wants) {
        boolean same = with(22, gives, wants, UnionClock::offer, Model::offer);
        offers = Math.min(40, offers + 1);
        return same;
    }

    private List<Integer> someOfDistinctWorkers() {
        List<Integer> some = new ArrayList<>();
        Set<Integer> theirWorkers = new HashSet<>();
        int most = 2 + random.nextInt(workers);
        for (int tries = 0; tries < 60 && shifts > 0 && some.size() < most; tries++) {
            int shift = random.nextInt(shifts);
            if (begins[shift] > now && model.holder(shift) != -1 && theirWorkers.add(model.holder(shift))) {
                some.add(shift);
            }
        }
        return some;
    }

    private int workerNumber() {
        return random.nextInt(20) == 0 ? random.nextInt(12) - 2 : random.nextInt(workers);
    }

    private int shiftNumber() {
        return among(shifts);
    }

    private int ruleNumber() {
        return among(rules);
    }

    private int offerNumber() {
        return among(offers);
    }

    private int claimNumber() {
        return among(model.claims());
    }

    private int among(int count) {
        return random.nextInt(30) == 0 || count == 0 ? random.nextInt(count + 4) - 2 : random.nextInt(count);
    }

    private int claimIn(int state) {
        int claim = claimNumber();
        for (int tries = 0; tries < 30 && claim >= 0 && claim < model.claims() && model.state(claim) != state; tries++) {
            claim = claimNumber();
        }
        return claim;
    }

    /** An offer with a ring, if one is found soon. */
    private int ringedOffer() {
        int offer = offerNumber();
        for (int tries = 0; tries < 12; tries++) {
            try {
                if (model.ring(offer) > 0) {
                    return offer;
                }
            } catch (IndexOutOfBoundsException e) {
                return offer;
            }
            offer = offerNumber();
        }
        return offer;
    }

    private interface OfTwo<T> {
        int answer(T asked, int first, int second);
    }

    private boolean with(int call, int first, ToIntBiFunction<UnionClock, Integer> ofClock,
            ToIntBiFunction<Model, Integer> ofModel) {
        return same(call, c -> ofClock.applyAsInt(c, first), m -> ofModel.applyAsInt(m, first));
    }

    private boolean with(int call, int first, int second, OfTwo<UnionClock> ofClock, OfTwo<Model> ofModel) {
        return same(call, c -> ofClock.answer(c, first, second), m -> ofModel.answer(m, first, second));
    }

    private boolean same(int call, ToIntFunction<UnionClock> ofClock, ToIntFunction<Model> ofModel) {
        if (calls >= CALLS) {
            return true;
        }
        calls++;
        made[call]++;
        String got = answer(() -> ofClock.applyAsInt(clock));
        String want = answer(() -> ofModel.applyAsInt(model));
        if (want.startsWith("class")) {
            refused[call]++;
        }
        trace = NAMES[call] + " answered " + got + ", due is " + want;
        return got.equals(want);
    }

    private interface Answer {
        int get();
    }

    private static String answer(Answer answer) {
        try {
            return String.valueOf(answer.get());
        } catch (RuntimeException e) {
            return e.getClass().toString();
        }
    }
}
