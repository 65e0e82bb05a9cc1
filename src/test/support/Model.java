import java.util.ArrayList;
import java.util.Comparator;
import java.util.List;
import java.util.regex.Matcher;
import java.util.regex.Pattern;

/**
 * The document written down again, as plainly as can be: nothing is kept that can be asked
 * of the shifts, rules, claims and offers themselves, and each answer is worked out anew.
 */
final class Model {
    private static final int NONE = -1;

    private record Rule(String kind, int n, int skill, int pay) {
    }

    private static final class Shift {
        int begin;
        int end;
        int skill;
        int holder = NONE;
        int stampedBegin;
        int stampedEnd;

        int hours() {
            return stampedEnd - stampedBegin;
        }
    }

    private static final class Claim {
        int worker;
        int shift;
        int rule;
        String state = "OPEN";
        int paid;
    }

    private static final class Offer {
        int worker;
        int gives;
        int wants;
        boolean there = true;
    }

    private final int[] skills = new int[8];
    private final int[] wage = {10, 10, 10, 10, 10, 10, 10, 10};
    private final List<Shift> shifts = new ArrayList<>();
    private final List<Rule> rules = new ArrayList<>();
    private final List<Boolean> dropped = new ArrayList<>();
    private final List<Claim> claims = new ArrayList<>();
    private final List<Offer> offers = new ArrayList<>();
    private String text = "";
    private int now;

    int pass(int hours) {
        argument(hours >= 1 && hours <= 200);
        state(now + hours <= 2000);
        now = now + hours;
        return now;
    }

    int worker(int worker, int newSkills, int newWage) {
        known(worker, 8);
        argument(newSkills >= 0 && newSkills <= 15 && newWage >= 0 && newWage <= 1000);
        int before = wage[worker];
        skills[worker] = newSkills;
        wage[worker] = newWage;
        return before;
    }

    int shift(int begin, int hours, int skill) {
        argument(begin >= 0 && begin <= 2000);
        argument(hours >= 1 && hours <= 16);
        argument(skill >= 0 && skill <= 3);
        state(shifts.size() < 40);
        Shift planned = new Shift();
        planned.begin = begin;
        planned.end = begin + hours;
        planned.stampedBegin = begin;
        planned.stampedEnd = begin + hours;
        planned.skill = skill;
        shifts.add(planned);
        return shifts.size() - 1;
    }

    int hold(int shift, int worker) {
        known(shift, shifts.size());
        if (worker != NONE) {
            known(worker, 8);
            state(canHold(worker, shift, List.of()));
        }
        int before = shifts.get(shift).holder;
        shifts.get(shift).holder = worker;
        if (before != worker) {
            endOffersOf(shift);
        }
        judge();
        return before;
    }

    int stamp(int shift, int begin, int end) {
        known(shift, shifts.size());
        argument(0 <= begin && begin <= now);
        argument(begin + 1 <= end && end <= begin + 24 && end <= now);
        Shift stamped = shifts.get(shift);
        state(stamped.holder != NONE);
        state(now - stamped.end <= 100);
        stamped.stampedBegin = begin;
        stamped.stampedEnd = end;
        judge();
        return stamped.hours() - (stamped.end - stamped.begin);
    }

    int holder(int shift) {
        known(shift, shifts.size());
        return shifts.get(shift).holder;
    }

    int shiftOf(int worker, int place) {
        known(worker, 8);
        known(place, orderOf(worker).size());
        return orderOf(worker).get(place);
    }

    int rest(int shift) {
        known(shift, shifts.size());
        Shift asked = shifts.get(shift);
        if (asked.holder == NONE) {
            return 10000;
        }
        int place = orderOf(asked.holder).indexOf(shift);
        return place == 0 ? 10000
                : asked.stampedBegin - shifts.get(orderOf(asked.holder).get(place - 1)).stampedEnd;
    }

    int put(char letter) {
        argument("ABCDEFGHIJKLMNOPQRSTUVWXYZ0123456789 ".indexOf(letter) >= 0);
        state(text.length() < 40);
        text = text + letter;
        return text.length();
    }

    int empty() {
        int before = text.length();
        text = "";
        return before;
    }

    /** Each word as it should be, up to the first that is not. */
    int wrongAt() {
        String number = "(0?0?[1-9]|0?[1-9][0-9]|1[0-9][0-9]|200)";
        String percent = "(00?0?|0?0?[1-9]|0?[1-9][0-9]|1[0-9][0-9]|200)";
        List<String> plain = List.of("(REST|WEEK|ROW|LONG)", number, "PAY", percent);
        List<String> skilled = List.of("(REST|WEEK|ROW|LONG)", number, "SKILL", "[0-3]", "PAY", percent);
        List<String> words = new ArrayList<>();
        List<Integer> places = new ArrayList<>();
        Matcher matcher = Pattern.compile("[A-Z0-9]+").matcher(text);
        while (matcher.find()) {
            words.add(matcher.group());
            places.add(matcher.start());
        }
        List<String> due = words.size() > 2 && words.get(2).equals("SKILL") ? skilled : plain;
        for (int i = 0; i < due.size(); i++) {
            if (i >= words.size()) {
                return text.length();
            }
            if (!words.get(i).matches(due.get(i))) {
                return places.get(i);
            }
        }
        return words.size() > due.size() ? places.get(due.size()) : NONE;
    }

    int read() {
        argument(wrongAt() == NONE);
        state(rules.size() < 12);
        String[] words = text.trim().split(" +");
        int skill = words.length == 6 ? Integer.parseInt(words[3]) : NONE;
        rules.add(new Rule(words[0], Integer.parseInt(words[1]), skill,
                Integer.parseInt(words[words.length - 1])));
        dropped.add(false);
        text = "";
        judge();
        return rules.size() - 1;
    }

    int drop(int rule) {
        known(rule, rules.size());
        state(!dropped.get(rule));
        int before = ended();
        dropped.set(rule, true);
        judge();
        return ended() - before;
    }

    int breaks(int shift, int rule) {
        known(shift, shifts.size());
        known(rule, rules.size());
        return isBroken(shift, rule) ? 1 : 0;
    }

    int breaches(int worker, int week) {
        known(worker, 8);
        argument(week >= 0 && week <= 11);
        int pairs = 0;
        for (int shift : orderOf(worker)) {
            for (int rule = 0; rule < rules.size(); rule++) {
                if (shifts.get(shift).stampedBegin / 168 == week && isBroken(shift, rule)) {
                    pairs++;
                }
            }
        }
        return pairs;
    }

    int claims() {
        return claims.size();
    }

    int state(int claim) {
        known(claim, claims.size());
        return List.of("OPEN", "PAID", "VOID", "OWED").indexOf(claims.get(claim).state);
    }

    int about(int claim) {
        known(claim, claims.size());
        Claim asked = claims.get(claim);
        return asked.worker * 10000 + asked.shift * 100 + asked.rule;
    }

    int worth(int claim) {
        known(claim, claims.size());
        Claim asked = claims.get(claim);
        return shifts.get(asked.shift).hours() * wage[asked.worker] * rules.get(asked.rule).pay() / 100;
    }

    int pay(int claim) {
        known(claim, claims.size());
        state(claims.get(claim).state.equals("OPEN"));
        claims.get(claim).state = "PAID";
        claims.get(claim).paid = worth(claim);
        return worth(claim);
    }

    int takeBack(int claim) {
        known(claim, claims.size());
        state(claims.get(claim).state.equals("OWED"));
        claims.get(claim).state = "VOID";
        return claims.get(claim).paid;
    }

    int wages(int worker) {
        known(worker, 8);
        int cents = 0;
        for (int shift : orderOf(worker)) {
            if (shifts.get(shift).stampedEnd <= now) {
                cents += shifts.get(shift).hours() * wage[worker];
            }
        }
        for (Claim claim : claims) {
            if (claim.worker == worker && (claim.state.equals("PAID") || claim.state.equals("OWED"))) {
                cents += claim.paid;
            }
        }
        return cents;
    }

    int offer(int gives, int wants) {
        known(gives, shifts.size());
        known(wants, shifts.size());
        Shift given = shifts.get(gives);
        Shift wanted = shifts.get(wants);
        state(given.holder != NONE && wanted.holder != NONE && given.holder != wanted.holder);
        state(given.begin > now && wanted.begin > now && offers.size() < 40);
        Offer made = new Offer();
        made.worker = given.holder;
        made.gives = gives;
        made.wants = wants;
        offers.add(made);
        return offers.size() - 1;
    }

    int withdraw(int offer) {
        known(offer, offers.size());
        state(offers.get(offer).there);
        offers.get(offer).there = false;
        return offers();
    }

    int offers() {
        return (int) offers.stream().filter(offer -> offer.there).count();
    }

    int ring(int offer) {
        known(offer, offers.size());
        return ringOf(offers.get(offer)).size();
    }

    int swap(int offer) {
        known(offer, offers.size());
        List<Offer> ring = ringOf(offers.get(offer));
        state(!ring.isEmpty());
        List<Integer> given = new ArrayList<>();
        for (Offer part : ring) {
            given.add(part.gives);
        }
        for (Offer part : ring) {
            state(canHold(part.worker, part.wants, given));
            state(shifts.get(part.gives).begin > now && shifts.get(part.wants).begin > now);
        }
        int before = claims.size();
        for (Offer part : ring) {
            shifts.get(part.wants).holder = part.worker;
            endOffersOf(part.gives);
            endOffersOf(part.wants);
        }
        judge();
        return claims.size() - before;
    }

    private List<Integer> orderOf(int worker) {
        List<Integer> order = new ArrayList<>();
        for (int shift = 0; shift < shifts.size(); shift++) {
            if (shifts.get(shift).holder == worker) {
                order.add(shift);
            }
        }
        order.sort(Comparator.<Integer>comparingInt(shift -> shifts.get(shift).stampedBegin)
                .thenComparingInt(shift -> shift));
        return order;
    }

    private boolean canHold(int worker, int shift, List<Integer> given) {
        Shift asked = shifts.get(shift);
        if ((skills[worker] & (1 << asked.skill)) == 0) {
            return false;
        }
        for (int other : orderOf(worker)) {
            Shift held = shifts.get(other);
            boolean apart = held.end <= asked.begin || asked.end <= held.begin;
            if (other != shift && !given.contains(other) && !apart) {
                return false;
            }
        }
        return true;
    }

    private boolean isBroken(int shift, int rule) {
        Shift asked = shifts.get(shift);
        Rule law = rules.get(rule);
        if (asked.holder == NONE || dropped.get(rule) || law.skill() != NONE && law.skill() != asked.skill) {
            return false;
        }
        List<Integer> order = orderOf(asked.holder);
        List<Integer> ahead = order.subList(0, order.indexOf(shift));
        switch (law.kind()) {
            case "REST":
                return !ahead.isEmpty() && rest(shift) < law.n();
            case "WEEK":
                int hours = asked.hours();
                for (int other : ahead) {
                    if (shifts.get(other).stampedBegin / 168 == asked.stampedBegin / 168) {
                        hours += shifts.get(other).hours();
                    }
                }
                return hours > law.n();
            case "ROW":
                for (int back = 0; back <= law.n(); back++) {
                    int day = asked.stampedBegin / 24 - back;
                    if (order.stream().noneMatch(other -> shifts.get(other).stampedBegin / 24 == day)) {
                        return false;
                    }
                }
                return true;
            default:
                return asked.hours() > law.n();
        }
    }

    private void judge() {
        for (Claim claim : claims) {
            if (shifts.get(claim.shift).holder != claim.worker || !isBroken(claim.shift, claim.rule)) {
                claim.state = claim.state.equals("OPEN") ? "VOID"
                        : claim.state.equals("PAID") ? "OWED" : claim.state;
            }
        }
        for (int shift = 0; shift < shifts.size(); shift++) {
            for (int rule = 0; rule < rules.size(); rule++) {
                if (isBroken(shift, rule)) {
                    claim(shifts.get(shift).holder, shift, rule);
                }
            }
        }
    }

    private void claim(int worker, int shift, int rule) {
        for (Claim claim : claims) {
            if (claim.worker == worker && claim.shift == shift && claim.rule == rule) {
                claim.state = claim.state.equals("VOID") ? "OPEN"
                        : claim.state.equals("OWED") ? "PAID" : claim.state;
                return;
            }
        }
        if (claims.size() < 200) {
            Claim made = new Claim();
            made.worker = worker;
            made.shift = shift;
            made.rule = rule;
            claims.add(made);
        }
    }

    private int ended() {
        int ended = 0;
        for (Claim claim : claims) {
            if (claim.state.equals("VOID") || claim.state.equals("OWED")) {
                ended++;
            }
        }
        return ended;
    }

    private void endOffersOf(int shift) {
        for (Offer offer : offers) {
            if (offer.gives == shift || offer.wants == shift) {
                offer.there = false;
            }
        }
    }

    private List<Offer> ringOf(Offer first) {
        List<Offer> ring = new ArrayList<>();
        Offer last = first.there ? first : null;
        while (last != null && ring.size() < 8) {
            int worker = last.worker;
            if (ring.stream().anyMatch(part -> part.worker == worker)) {
                return List.of();
            }
            ring.add(last);
            if (last.wants == first.gives) {
                return ring;
            }
            int wanted = last.wants;
            last = offers.stream().filter(offer -> offer.there && offer.gives == wanted).findFirst().orElse(null);
        }
        return List.of();
    }

    private static void known(int number, int count) {
        if (number < 0 || number >= count) {
            throw new IndexOutOfBoundsException();
        }
    }

    private static void argument(boolean holds) {
        if (!holds) {
            throw new IllegalArgumentException();
        }
    }

    private static void state(boolean holds) {
        if (!holds) {
            throw new IllegalStateException();
        }
    }
}
