import java.util.ArrayList;
import java.util.Arrays;
import java.util.List;

/**
 * A second house for comparing: it lives through each day, changes what it holds in place, writes the
 * sums of every day down, and copies everything for an image. Slow, and built unlike PledgeHouse.
 */
final class PlainHouse {
    private static final int[] LEAST = {0, 0, 1, 1, 0, 0, 0, 0, 0, 1, 1, 1, 1, 1};
    private static final int[] MOST = {200, 500, 2000, 10000, 200, 200, 200, 200, 200, 1000, 1000, 1000, 1000, 1000};

    /** kind: -1 nothing, 5 a box. */
    private static final class Spot implements Cloneable {
        int kind = -1;
        int value;
        int fineness;
        int wear;
        int cameOn;
        int hundredths;
        int left;
        int ticket;
        List<Integer> values = new ArrayList<>();

        Spot copy() {
            Spot c;
            try {
                c = (Spot) clone();
            } catch (CloneNotSupportedException e) {
                throw new IllegalStateException(e);
            }
            c.values = new ArrayList<>(values);
            return c;
        }
    }

    private static final class Slip implements Cloneable {
        int number;
        int place;
        int kind;
        int half;
        int state;
        int principal;
        int interest;
        int months;
        int start;
        int term;
        int rate;
        boolean forfeit;
        boolean claim;
        int claimed;
        int pending;
        int bids;
        int best;
        int over;
        int until;
        int overIs;
        int torn = -1;
        int oath = -1;
        int renewedOn = -1;
        int[] undo;

        Slip copy() {
            try {
                return (Slip) clone();
            } catch (CloneNotSupportedException e) {
                throw new IllegalStateException(e);
            }
        }

        int owed() {
            return principal + interest;
        }

        void monthBegins() {
            months++;
            long grown = (long) principal * rate;
            interest += (int) (grown / 1000) + (grown % 1000 > 0 ? 1 : 0);
        }
    }

    private int today;
    private int[] rules = {20, 50, 700, 400, 20, 20, 20, 20, 20, 600, 600, 600, 600, 600};
    private List<Spot> spots = new ArrayList<>();
    private List<Slip> slips = new ArrayList<>();
    private List<long[]> books = new ArrayList<>();
    /** lent, interest, principal, costs, kept, fetched, the house's, loss, principal of loss. */
    private long[] coins = new long[9];
    private PlainHouse kept;
    private int status;

    PlainHouse() {
        for (int i = 0; i < 40; i++) {
            spots.add(new Spot());
        }
    }

    private int a(int answer) {
        status = answer;
        return answer;
    }

    private void takeFrom(PlainHouse o) {
        today = o.today;
        rules = o.rules.clone();
        coins = o.coins.clone();
        books = new ArrayList<>(o.books);
        spots = new ArrayList<>();
        for (Spot s : o.spots) {
            spots.add(s.copy());
        }
        slips = new ArrayList<>();
        for (Slip s : o.slips) {
            slips.add(s.copy());
        }
    }

    private Spot spot(int place) {
        return place < 0 || place > 39 ? null : spots.get(place);
    }

    private Slip slip(int ticket) {
        return ticket < 1 || ticket > slips.size() ? null : slips.get(ticket - 1);
    }

    int day(int n) {
        if ((long) today + n > 7300) return a(-5);
        if (n < 1 || n > 400) return a(-6);
        for (int i = 0; i < n; i++) {
            passDay();
        }
        return a(today);
    }

    private void passDay() {
        long[] row = new long[13];
        for (int what = 0; what < 13; what++) {
            row[what] = sum(what);
        }
        books.add(row);
        for (Slip s : slips) {
            if (s.state == 0 && s.claim && today >= s.start + 30 * s.term) s.pending++;
        }
        today++;
        for (Slip s : slips) {
            if (s.state == 0 && today >= s.start && (today - s.start) % 30 == 0) s.monthBegins();
            if (s.over > 0 && s.overIs == 0 && today == s.until + 1) {
                s.overIs = 2;
                coins[4] -= s.over;
                coins[6] += s.over;
            }
        }
    }

    int rule(int rule, int v) {
        if (rule < 0 || rule >= 14) return a(-1);
        if (v < LEAST[rule] || v > MOST[rule]) return a(-6);
        rules[rule] = v;
        return a(0);
    }

    private static boolean badValue(int value) {
        return value < 1 || value > 1000000;
    }

    private static boolean badWeight(float weight) {
        return Float.isNaN(weight) || weight < 0 || weight > 10000;
    }

    private int comes(int place, int kind, boolean badNumber) {
        Spot s = spot(place);
        if (s == null) return -1;
        if (s.kind != -1) return -2;
        if (badNumber) return -6;
        Spot fresh = new Spot();
        fresh.kind = kind;
        fresh.cameOn = today;
        spots.set(place, fresh);
        return 0;
    }

    private int weigh(int place, float weight) {
        float f = weight * 100f;
        spot(place).hundredths = (int) Math.floor(f);
        float rest = f - (float) Math.floor(f);
        spot(place).left = (int) (rest * 1000f);
        return spot(place).hundredths;
    }

    int thing(int place, int value) {
        int r = comes(place, 0, badValue(value));
        if (r == 0) spot(place).value = value;
        return a(r);
    }

    int gold(int place, float weight, int fineness) {
        int r = comes(place, 1, badWeight(weight) || fineness < 1 || fineness > 1000);
        if (r < 0) return a(r);
        spot(place).fineness = fineness;
        return a(weigh(place, weight));
    }

    int coat(int place, int value, int wear) {
        int r = comes(place, 3, badValue(value) || wear < 0 || wear > 500);
        if (r < 0) return a(r);
        spot(place).value = value;
        spot(place).wear = wear;
        return a(0);
    }

    int rare(int place, float weight) {
        int r = comes(place, 4, badWeight(weight));
        return a(r < 0 ? r : weigh(place, weight));
    }

    int second(int place, int value) {
        Spot s = spot(place);
        if (s == null) return a(-1);
        if (s.kind != 4 || s.ticket != 0) return a(-2);
        if (badValue(value)) return a(-6);
        s.values.add(value);
        return a(s.values.size());
    }

    int item(int place, int value) {
        Spot s = spot(place);
        if (s == null) return a(-1);
        if (s.kind != -1 && s.kind != 2 || s.ticket != 0) return a(-2);
        if (badValue(value) || s.values.size() == 6) return a(-6);
        s.kind = 2;
        s.values.add(value);
        return a(s.values.size() - 1);
    }

    int box(int place) {
        Spot s = spot(place);
        if (s == null) return a(-1);
        if (s.kind != -1 && s.kind != 5) return a(-2);
        s.kind = s.kind == 5 ? -1 : 5;
        return a(s.kind == 5 ? 1 : 0);
    }

    private static boolean isPledge(Spot s) {
        return s.kind >= 0 && s.kind <= 4;
    }

    int away(int place) {
        Spot s = spot(place);
        if (s == null) return a(-1);
        if (!isPledge(s) || s.ticket != 0) return a(-2);
        spots.set(place, new Spot());
        return a(0);
    }

    private long worth(Spot s) {
        switch (s.kind) {
            case 0: return s.value;
            case 1: return (long) s.hundredths * s.fineness * rules[3] / 1000000;
            case 2: return s.values.stream().mapToLong(v -> v).sum();
            case 3: {
                long factor = 1000;
                for (int d = s.cameOn + 360; d <= today; d += 360) factor -= s.wear;
                return s.value * Math.max(0, factor) / 1000;
            }
            case 4: {
                int n = s.values.size();
                return n < 2 ? 0 : Math.min(s.values.get(n - 1), s.values.get(n - 2));
            }
            default: return 0;
        }
    }

    int lend(int place, int amount, int months) {
        Spot p = spot(place);
        if (p == null) return a(-1);
        if (!isPledge(p) || p.ticket != 0) return a(-2);
        if (months < 1 || months > 12 || amount < 1 || amount > worth(p) * rules[9 + p.kind] / 1000) return a(-6);
        if (slips.size() == 511) return a(-7);
        Slip s = new Slip();
        s.number = slips.size() + 1;
        s.place = place;
        s.kind = p.kind;
        s.principal = amount;
        s.start = today;
        s.term = months;
        s.rate = rules[4 + p.kind];
        s.half = 1000 * s.number + (7 * amount + 13 * today) % 1000;
        s.monthBegins();
        slips.add(s);
        p.ticket = s.number;
        coins[0] += amount;
        return a(s.number);
    }

    int tear(int ticket, int how) {
        Slip s = slip(ticket);
        if (s == null) return a(-1);
        if (s.torn >= 0) return a(-2);
        if (how != 0 && how != 1) return a(-6);
        s.torn = how;
        return a(0);
    }

    int oath(int ticket) {
        Slip s = slip(ticket);
        if (s == null) return a(-1);
        if (s.state != 0) return a(-2);
        s.oath = today;
        return a(0);
    }

    private boolean right(Slip s, int half) {
        if (half == 0) return s.oath >= 0 && s.oath + 14 <= today;
        return s.torn >= 0 ? Math.floorDiv(half, 1000) == s.number : half == s.half;
    }

    private static void shows(Slip s, int half) {
        if (half != 0) s.oath = -1;
    }

    int pay(int ticket, int half, int c) {
        Slip s = slip(ticket);
        if (s == null) return a(-1);
        if (s.state != 0 || s.forfeit) return a(-2);
        if (!right(s, half)) return a(-4);
        if (c < 1 || c >= s.owed()) return a(-6);
        shows(s, half);
        int i = Math.min(c, s.interest);
        s.interest -= i;
        s.principal -= c - i;
        coins[1] += i;
        coins[2] += c - i;
        s.undo = null;
        return a(s.owed());
    }

    int renew(int ticket, int half, int months) {
        Slip s = slip(ticket);
        if (s == null) return a(-1);
        if (s.state != 0 || s.forfeit) return a(-2);
        if (s.claim) return a(-3);
        if (!right(s, half)) return a(-4);
        if (months < 1 || months > 12) return a(-6);
        shows(s, half);
        s.undo = new int[] {s.start, s.term, s.rate, s.months, s.interest, s.claimed};
        s.renewedOn = today;
        int paid = s.interest;
        coins[1] += paid;
        s.interest = 0;
        s.start = s.start + 30 * s.months;
        s.months = 0;
        s.term = months;
        s.rate = rules[4 + s.kind];
        s.claimed = 0;
        return a(paid);
    }

    int undo(int ticket) {
        Slip s = slip(ticket);
        if (s == null) return a(-1);
        if (s.state != 0 || s.undo == null) return a(-2);
        if (s.renewedOn != today) return a(-5);
        s.start = s.undo[0];
        s.term = s.undo[1];
        s.rate = s.undo[2];
        s.months = s.undo[3];
        s.interest = s.undo[4];
        s.claimed = s.undo[5];
        s.undo = null;
        coins[1] -= s.interest;
        return a(s.interest);
    }

    private void close(Slip s, int state) {
        s.state = state;
        spots.set(s.place, new Spot());
    }

    int redeem(int ticket, int half, int c) {
        Slip s = slip(ticket);
        if (s == null) return a(-1);
        if (s.state != 0 || s.forfeit) return a(-2);
        if (s.claim) return a(-3);
        if (!right(s, half)) return a(-4);
        if (c != s.owed()) return a(-6);
        shows(s, half);
        coins[1] += s.interest;
        coins[2] += s.principal;
        close(s, 1);
        return a(0);
    }

    int out(int ticket, int half, int item) {
        Slip s = slip(ticket);
        if (s == null || item < 0 || item > 5) return a(-1);
        if (s.state != 0 || s.forfeit) return a(-2);
        Spot p = spots.get(s.place);
        if (p.kind != 2 || item >= p.values.size() || p.values.get(item) == 0) return a(-2);
        if (s.claim) return a(-3);
        if (!right(s, half)) return a(-4);
        long rest = worth(p) - p.values.get(item);
        if (rest == 0 || s.owed() > rest * rules[11] / 1000) return a(-6);
        shows(s, half);
        p.values.set(item, 0);
        s.undo = null;
        return a((int) rest);
    }

    int forfeit(int ticket) {
        Slip s = slip(ticket);
        if (s == null) return a(-1);
        if (s.state != 0 || s.forfeit) return a(-2);
        if (s.claim) return a(-3);
        if (today < s.start + 30 * s.term + rules[0] + s.claimed) return a(-5);
        s.forfeit = true;
        return a(s.owed());
    }

    int bid(int ticket, int c) {
        Slip s = slip(ticket);
        if (s == null) return a(-1);
        if (s.state != 0 || !s.forfeit) return a(-2);
        if (c < 1 || c > 10000000) return a(-6);
        s.bids++;
        if (c > s.best) s.best = c;
        return a(s.bids);
    }

    int sale(int ticket) {
        Slip s = slip(ticket);
        if (s == null) return a(-1);
        if (s.state != 0 || !s.forfeit || s.bids == 0) return a(-2);
        if (s.claim) return a(-3);
        long costs = ((long) s.best * rules[1] + 999) / 1000;
        long left = s.best - costs;
        long rest = left - s.owed();
        coins[3] += costs;
        long i = Math.min(left, s.interest);
        long p = Math.min(left - i, s.principal);
        coins[1] += i;
        coins[2] += p;
        if (rest > 0) {
            s.over = (int) rest;
            s.until = today + rules[2];
            coins[4] += rest;
        }
        if (rest < 0) {
            coins[7] -= rest;
            coins[8] += s.principal - p;
        }
        close(s, 2);
        return a(s.best);
    }

    int fetch(int ticket, int half) {
        Slip s = slip(ticket);
        if (s == null) return a(-1);
        if (s.state != 2 || s.over == 0 || s.overIs == 1) return a(-2);
        if (!right(s, half)) return a(-4);
        if (s.overIs == 2) return a(-5);
        shows(s, half);
        s.overIs = 1;
        coins[4] -= s.over;
        coins[5] += s.over;
        return a(s.over);
    }

    int claim(int ticket) {
        Slip s = slip(ticket);
        if (s == null) return a(-1);
        if (s.state != 0) return a(-2);
        if (s.claim) return a(-3);
        s.claim = true;
        s.pending = 0;
        s.undo = null;
        return a(0);
    }

    private int claimEnds(Slip s) {
        if (s == null) return -1;
        if (s.state != 0) return -2;
        if (!s.claim) return -3;
        s.claim = false;
        s.claimed += s.pending;
        s.pending = 0;
        return 0;
    }

    int drop(int ticket) {
        int r = claimEnds(slip(ticket));
        return a(r < 0 ? r : slip(ticket).claimed);
    }

    int prove(int ticket) {
        Slip s = slip(ticket);
        int r = claimEnds(s);
        if (r < 0) return a(r);
        coins[7] += s.owed();
        coins[8] += s.principal;
        close(s, 3);
        return a(s.owed());
    }

    int image() {
        kept = new PlainHouse();
        kept.takeFrom(this);
        return a(0);
    }

    int back() {
        if (kept == null) return a(-2);
        takeFrom(kept);
        return a(0);
    }

    long place(int place, int what) {
        Spot s = spot(place);
        if (s == null || what < 0 || what > 6) return -1;
        boolean metal = s.kind == 1 || s.kind == 4;
        long[] row = {s.kind, worth(s), s.ticket, metal ? s.hundredths : 0, metal ? s.left : 0,
            s.kind == 2 ? s.values.stream().filter(v -> v > 0).count() : 0, s.kind == 4 ? s.values.size() : 0};
        return row[what];
    }

    int told(int ticket, int what) {
        Slip s = slip(ticket);
        if (s == null || what < 0 || what > 17) return -1;
        int first = s.start + 30 * s.term + rules[0] + s.claimed + s.pending;
        int[] row = {s.state, s.principal, s.interest, s.months, s.start, s.term, s.rate, s.forfeit ? 1 : 0,
            first, s.claim ? 1 : 0, s.claimed, s.best, s.over, s.overIs, s.place,
            s.torn == 0 ? -1 : s.number, s.torn >= 0 ? -1 : s.half, s.oath};
        return row[what];
    }

    int half() {
        return slips.isEmpty() ? 0 : slips.get(slips.size() - 1).half;
    }

    long sum(int what) {
        if (what < 0 || what > 12) return -1;
        if (what <= 7) return coins[what];
        long principal = 0;
        long interest = 0;
        long open = 0;
        for (Slip s : slips) {
            if (s.state == 0) {
                principal += s.principal;
                interest += s.interest;
                open++;
            }
        }
        long pledges = spots.stream().filter(PlainHouse::isPledge).count();
        return new long[] {principal, interest, open, pledges, slips.size()}[what - 8];
    }

    long as(int day, int what) {
        if (day < 0 || day > today || what < 0 || what > 12) return -1;
        return day == today ? sum(what) : books.get(day)[what];
    }

    int check() {
        return coins[0] == coins[2] + sum(8) + coins[8] ? 0 : 1;
    }

    int status() {
        return status;
    }

    int today() {
        return today;
    }

    int tickets() {
        return slips.size();
    }

    int owedOf(int ticket) {
        Slip s = slip(ticket);
        return s == null ? 0 : s.owed();
    }

    int halfOf(int ticket) {
        Slip s = slip(ticket);
        return s == null ? 0 : s.half;
    }

    int[] allRules() {
        return Arrays.copyOf(rules, rules.length);
    }
}
