/** Clocks in the states that the tests begin with, and short ways to get further. */
final class Clocks {
    private Clocks() {
    }

    /** A clock whose workers hold all skills, with wages of 10, 20, .. 80. */
    static UnionClock ofAllSkills() {
        UnionClock clock = new UnionClock();
        for (int worker = 0; worker < 8; worker++) {
            clock.worker(worker, 15, 10 * (worker + 1));
        }
        return clock;
    }

    /**
     * A clock at hour 60 with something of everything: shifts 0 to 8, of which 3 and 8 are free and 0, 2
     * and 3 are stamped; rules 0 to 3, of which 3 is dropped; claims 0 and 4 PAID, 1 OWED, 2, 3, 5 and 7 OPEN,
     * 6 VOID; a ring of the offers 0, 1 and 2, the offer 3 withdrawn, 4 there; worker 6 without skills,
     * worker 7 with 0 and 2; and the text 'REST 8 P'.
     */
    static UnionClock busy() {
        UnionClock clock = ofAllSkills();
        clock.worker(6, 0, 70);
        clock.worker(7, 5, 80);
        int[][] shifts = {{10, 8, 0, 0}, {20, 9, 1, 0}, {30, 12, 2, 1}, {50, 5, 3, 2}, {100, 8, 0, 3},
            {110, 8, 1, 4}, {120, 10, 0, 5}, {300, 16, 2, 3}, {400, 6, 0, -1}};
        for (int[] shift : shifts) {
            clock.hold(clock.shift(shift[0], shift[1], shift[2]), shift[3]);
        }
        for (String rule : new String[] {"LONG 8 PAY 50", "REST 10 PAY 20", "WEEK 16 SKILL 1 PAY 100",
                "LONG 15 PAY 10"}) {
            read(clock, rule);
        }
        clock.pay(0);
        clock.pay(1);
        clock.pay(4);
        clock.drop(3);
        passTo(clock, 60);
        clock.stamp(2, 30, 37);
        clock.stamp(0, 9, 19);
        clock.stamp(3, 40, 46);
        clock.hold(3, -1);
        for (int[] offer : new int[][] {{4, 5}, {5, 6}, {6, 4}, {7, 5}, {7, 6}}) {
            clock.offer(offer[0], offer[1]);
        }
        clock.withdraw(3);
        put(clock, "REST 8 P");
        return clock;
    }

    /** A clock with 40 shifts, held by 0 and 1 by turns, each with a day of its own. */
    static UnionClock fullOfShifts() {
        UnionClock clock = ofAllSkills();
        for (int shift = 0; shift < 40; shift++) {
            held(clock, 24 * shift + 10, 9, shift % 2);
        }
        return clock;
    }

    /** A clock that has read 12 rules, with a text that would be another one. */
    static UnionClock fullOfRules() {
        UnionClock clock = ofAllSkills();
        held(clock, 10, 9, 0);
        held(clock, 30, 8, 1);
        for (int rule = 0; rule < 12; rule++) {
            read(clock, "LONG 8 PAY 1");
        }
        put(clock, "LONG 1 PAY 9");
        return clock;
    }

    /** A clock with 199 claims: of 15 shifts 12 each, of 2 shifts 8 each, and of one 3. */
    static UnionClock almostFullOfClaims() {
        UnionClock clock = ofAllSkills();
        for (int hours = 1; hours <= 12; hours++) {
            StringBuilder rule = new StringBuilder("LONG ");
            read(clock, rule.append(hours).append(" PAY 50").toString());
        }
        for (int shift = 0; shift < 15; shift++) {
            held(clock, 20 * shift + 10, 13, shift % 8);
        }
        held(clock, 310, 9, 0);
        held(clock, 330, 9, 1);
        held(clock, 350, 4, 2);
        return clock;
    }

    /** A clock in which 40 offers were made and all are there, of shift 0 for 1 and back. */
    static UnionClock fullOfOffers() {
        UnionClock clock = ofAllSkills();
        held(clock, 100, 9, 0);
        held(clock, 120, 9, 1);
        held(clock, 140, 9, 2);
        for (int number = 0; number < 40; number++) {
            clock.offer(number % 2, 1 - number % 2);
        }
        return clock;
    }

    static void put(UnionClock clock, String text) {
        for (int i = 0; i < text.length(); i++) {
            clock.put(text.charAt(i));
        }
    }

    static int read(UnionClock clock, String text) {
        put(clock, text);
        return clock.read();
    }

    /** Plans a shift of skill 0 and gives it to a worker. */
    static int held(UnionClock clock, int begin, int hours, int worker) {
        int shift = clock.shift(begin, hours, 0);
        clock.hold(shift, worker);
        return shift;
    }

    static void passTo(UnionClock clock, int hour) {
        int now = clock.pass(1);
        while (now < hour) {
            now = clock.pass(Math.min(200, hour - now));
        }
    }
}
