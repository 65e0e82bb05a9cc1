/** Clocks in the states that the tests begin with, and short ways to get further. */
final class Clocks {
    private Clocks() {
    }

    /** A clock whose workers hold all skills, with wages of 10, 20, .. 80. */
    static UnionClock ofAllSkills() {
        UnionClock clock = new UnionClock();
        for (int worker = 0; worker < 8; worker++) {
            clock.worker(worker, 15, 10 * (worker + 1));
        }
        return clock;
    }

    static void put(UnionClock clock, String text) {
        for (int i = 0; i < text.length(); i++) {
            clock.put(text.charAt(i));
        }
    }

    static int read(UnionClock clock, String text) {
        put(clock, text);
        return clock.read();
    }

    /** Plans a shift of skill 0 and gives it to a worker. */
    static int held(UnionClock clock, int begin, int hours, int worker) {
        int shift = clock.shift(begin, hours, 0);
        clock.hold(shift, worker);
        return shift;
    }

    static void passTo(UnionClock clock, int hour) {
        int now = clock.pass(1);
        while (now < hour) {
            now = clock.pass(Math.min(200, hour - now));
        }
    }
}
