import java.util.Random;

/** All promises: random runs of 512 calls on a PledgeHouse and on a PlainHouse, which must answer alike. */
public final class RandomRunsTest {
    private static final Due DUE = new Due("RandomRunsTest");
    private static final int RUNS = 1500;
    private static final int CALLS = 512;
    private static final int MOST_TOLD = 20;

    private final Random random;
    private final int run;
    private final int manners;
    private final PledgeHouse house = new PledgeHouse();
    private final PlainHouse plain = new PlainHouse();
    /** How often each act was taken, to see that runs reach all of them. */
    private static final int[] TAKEN = new int[28];

    private RandomRunsTest(int run) {
        this.run = run;
        this.random = new Random(run);
        this.manners = run % 4;
    }

    public static void main(String[] args) {
        int told = 0;
        for (int run = 1; run <= RUNS && told < MOST_TOLD; run++) {
            if (!new RandomRunsTest(run).live()) {
                told++;
            }
        }
        for (int act = 0; act < TAKEN.length; act++) {
            DUE.is("act " + act + " was taken often", TAKEN[act] > RUNS / 10 ? 1 : 0, 1);
        }
        DUE.end();
    }

    private boolean live() {
        for (int call = 1; call <= CALLS; call++) {
            boolean right = random.nextInt(5) == 0 ? looks(call) : acts(call);
            if (!right) {
                return false;
            }
        }
        return looksAtAll();
    }

    private boolean same(String call, long got, long want) {
        DUE.is("run " + run + ", " + call, got, want);
        return got == want;
    }

    private boolean chance(int one, int of) {
        return random.nextInt(of) < one;
    }

    private int between(int least, int most) {
        return least + random.nextInt(most - least + 1);
    }

    private int aPlace() {
        return chance(1, 40) ? between(-2, 41) : between(0, manners == 0 ? 3 : manners == 1 ? 39 : 8);
    }

    private int aTicket() {
        int tickets = plain.tickets();
        if (tickets == 0 || chance(1, 30)) {
            return between(-1, tickets + 2);
        }
        return chance(3, 4) ? between(Math.max(1, tickets - 6), tickets) : between(1, tickets);
    }

    private int aHalf(int ticket) {
        if (chance(1, 8)) {
            return 0;
        }
        return chance(1, 10) ? 1000 * ticket + between(-2, 1001) : plain.halfOf(ticket);
    }

    private int aValue() {
        if (chance(1, 30)) {
            return chance(1, 2) ? between(-2, 1) : between(999999, 1000002);
        }
        return manners == 2 ? between(1, 1000000) : between(1, 2000);
    }

    private float aWeight() {
        if (chance(1, 25)) {
            float[] odd = {-1f, Float.NaN, 10000f, 10000.001f, 0f, -0f, Float.POSITIVE_INFINITY, Float.MIN_VALUE};
            return odd[random.nextInt(odd.length)];
        }
        return manners == 2 ? random.nextFloat() * 10000f : random.nextFloat() * 50f;
    }

    private int days() {
        if (chance(1, 40)) {
            int[] odd = {0, -1, 401, 7300, 7301, Integer.MAX_VALUE, Integer.MIN_VALUE, 400};
            return odd[random.nextInt(odd.length)];
        }
        return chance(1, 3) ? between(1, 3) : chance(1, 2) ? between(1, 40) : between(1, manners == 3 ? 400 : 90);
    }

    private boolean acts(int call) {
        int act = chance(1, 12) ? 0 : chance(1, 12) ? 10 : between(0, 27);
        if (act >= 25 && chance(1, 2) || chance(1, 8)) {
            act = between(17, 21);
        }
        int place = aPlace();
        int ticket = aTicket();
        int half = aHalf(ticket);
        String name = "call " + call + " act " + act + " ticket " + ticket + " place " + place;
        int[] both = act <= 10 ? shelf(act, place) : loan(act, ticket, half, place);
        if (both[1] >= 0) {
            TAKEN[act]++;
        }
        return same(name, both[0], both[1]) && same(name + " status", house.status(), plain.status());
    }

    private int[] both(int got, int want) {
        return new int[] {got, want};
    }

    private int[] shelf(int act, int place) {
        int value = aValue();
        float weight = aWeight();
        int n = days();
        switch (act) {
            case 0: return both(house.day(n), plain.day(n));
            case 1: return rule();
            case 2: return both(house.thing(place, value), plain.thing(place, value));
            case 3: {
                int fineness = chance(1, 20) ? between(-1, 1002) : between(300, 1000);
                return both(house.gold(place, weight, fineness), plain.gold(place, weight, fineness));
            }
            case 4: {
                int wear = chance(1, 20) ? between(-2, 502) : between(0, 300);
                return both(house.coat(place, value, wear), plain.coat(place, value, wear));
            }
            case 5: return both(house.rare(place, weight), plain.rare(place, weight));
            case 6: {
                int p = aLoose(4, place);
                return both(house.second(p, value), plain.second(p, value));
            }
            case 7: {
                int p = chance(2, 3) ? aLoose(2, place) : place;
                return both(house.item(p, value), plain.item(p, value));
            }
            case 8: {
                int p = aLoose(5, place);
                return both(house.box(p), plain.box(p));
            }
            case 9: return chance(2, 3) ? lend(place) : both(house.away(place), plain.away(place));
            default: return lend(place);
        }
    }

    private int[] rule() {
        int rule = between(chance(1, 10) ? -1 : 0, chance(1, 10) ? 14 : 13);
        int most = rule == 0 ? 60 : rule == 2 ? 150 : rule == 3 ? 2000 : rule < 9 ? 200 : 1000;
        int v = chance(1, 10) ? between(-1, 10001) : between(0, most);
        return both(house.rule(rule, v), plain.rule(rule, v));
    }

    /** Mostly a place with that kind on it, under no ticket; else the one that is given. */
    private int aLoose(int kind, int place) {
        for (int p = 0; p < 40 && chance(19, 20); p++) {
            if (plain.place(p, 0) == kind && plain.place(p, 2) == 0) {
                return p;
            }
        }
        return place;
    }

    /** Mostly a ticket of which told(ticket, what) is v, and told(ticket, 0) is state; else the one that is given. */
    private int aTicketWith(int state, int what, int v, int ticket) {
        for (int t = plain.tickets(); t >= 1 && chance(29, 30); t--) {
            if (plain.told(t, 0) == state && plain.told(t, what) == v) {
                return t;
            }
        }
        return ticket;
    }

    private int[] lend(int place) {
        int from = place;
        for (int p = 0; p < 40 && chance(9, 10); p++) {
            int q = (Math.max(place, 0) + p) % 40;
            if (plain.place(q, 1) > 0 && plain.place(q, 2) == 0) {
                from = q;
                break;
            }
        }
        long worth = Math.max(1, plain.place(from, 1));
        int amount = chance(1, 15) ? between(-1, 2) : (int) (worth * between(1, chance(1, 2) ? 620 : 200) / 1000);
        int months = chance(1, 20) ? between(-1, 14) : between(1, manners == 3 ? 12 : 3);
        return both(house.lend(from, amount, months), plain.lend(from, amount, months));
    }

    private int[] loan(int act, int ticket, int half, int place) {
        switch (act) {
            case 11: {
                int how = between(chance(1, 5) ? -1 : 0, chance(1, 5) ? 2 : 1);
                return both(house.tear(ticket, how), plain.tear(ticket, how));
            }
            case 12: return both(house.oath(ticket), plain.oath(ticket));
            case 13: {
                int owed = plain.owedOf(ticket);
                int coins = chance(1, 8) ? between(-1, 1) : between(1, Math.max(1, owed + 1) / between(1, 6) + 1);
                return both(house.pay(ticket, half, coins), plain.pay(ticket, half, coins));
            }
            case 14: {
                int months = chance(1, 20) ? between(-1, 14) : between(1, 4);
                return both(house.renew(ticket, half, months), plain.renew(ticket, half, months));
            }
            case 15: return undo(ticket, half);
            case 16: {
                int coins = plain.owedOf(ticket) + (chance(1, 4) ? between(-1, 1) : 0);
                return chance(1, 2) ? both(house.redeem(ticket, half, coins), plain.redeem(ticket, half, coins))
                    : both(house.oath(ticket), plain.oath(ticket));
            }
            case 17: return out(ticket, half);
            case 18: {
                int t = chance(1, 2) ? anOverdue(ticket) : ticket;
                return both(house.forfeit(t), plain.forfeit(t));
            }
            case 19: {
                int t = aTicketWith(0, 7, 1, ticket);
                int coins = chance(1, 10) ? between(-1, 1) : between(1, 2 * Math.max(1, plain.owedOf(t)));
                return both(house.bid(t, coins), plain.bid(t, coins));
            }
            case 20: {
                int t = aTicketWith(0, 7, 1, ticket);
                return both(house.sale(t), plain.sale(t));
            }
            case 21: return fetch(ticket, half);
            default: return claims(act, ticket);
        }
    }

    private int anOverdue(int ticket) {
        for (int t = plain.tickets(); t >= 1 && chance(29, 30); t--) {
            if (plain.told(t, 0) == 0 && plain.told(t, 7) == 0 && plain.told(t, 8) <= plain.today()) {
                return t;
            }
        }
        return ticket;
    }

    private int[] undo(int ticket, int half) {
        if (chance(1, 2)) {
            int months = between(1, 4);
            int got = house.renew(ticket, half, months);
            int want = plain.renew(ticket, half, months);
            if (got != want) {
                return both(got, want);
            }
        }
        return both(house.undo(ticket), plain.undo(ticket));
    }

    private int[] out(int ticket, int half) {
        for (int p = 0; p < 40 && chance(29, 30); p++) {
            if (plain.place(p, 5) > 1 && plain.place(p, 2) > 0) {
                int t = (int) plain.place(p, 2);
                int h = aHalf(t);
                int item = between(0, 3);
                return both(house.out(t, h, item), plain.out(t, h, item));
            }
        }
        int item = between(-1, 6);
        return both(house.out(ticket, half, item), plain.out(ticket, half, item));
    }

    private int[] fetch(int ticket, int half) {
        for (int t = plain.tickets(); t >= 1 && chance(15, 16); t--) {
            if (plain.told(t, 12) > 0 && plain.told(t, 13) == 0) {
                int h = aHalf(t);
                return both(house.fetch(t, h), plain.fetch(t, h));
            }
        }
        return both(house.fetch(ticket, half), plain.fetch(ticket, half));
    }

    private int[] claims(int act, int ticket) {
        switch (act) {
            case 22: return both(house.claim(ticket), plain.claim(ticket));
            case 23:
            case 24: {
                int t = aTicketWith(0, 9, 1, ticket);
                return act == 23 || chance(2, 3) ? both(house.drop(t), plain.drop(t))
                    : both(house.prove(t), plain.prove(t));
            }
            case 25: return both(house.image(), plain.image());
            case 26: return both(house.back(), plain.back());
            default: return both(house.day(1), plain.day(1));
        }
    }

    private boolean looks(int call) {
        int ticket = aTicket();
        int place = aPlace();
        int what = between(-1, 18);
        int sum = between(-1, 13);
        int day = between(-1, plain.today() + 1);
        String name = "call " + call + " looking ";
        return same(name + "told " + ticket + ", " + what, house.told(ticket, what), plain.told(ticket, what))
            && same(name + "place " + place, house.place(place, what), plain.place(place, what))
            && same(name + "half", house.half(), plain.half())
            && same(name + "sum " + sum, house.sum(sum), plain.sum(sum))
            && same(name + "as " + day + ", " + sum, house.as(day, sum), plain.as(day, sum))
            && same(name + "check", house.check(), 0)
            && same(name + "plain check", plain.check(), 0)
            && same(name + "status", house.status(), plain.status());
    }

    private boolean looksAtAll() {
        boolean right = true;
        for (int ticket = 1; ticket <= plain.tickets() && right; ticket++) {
            for (int what = 0; what <= 17 && right; what++) {
                right = same("end told " + ticket + ", " + what, house.told(ticket, what), plain.told(ticket, what));
            }
        }
        for (int place = 0; place < 40 && right; place++) {
            for (int what = 0; what <= 6 && right; what++) {
                right = same("end place " + place + ", " + what, house.place(place, what), plain.place(place, what));
            }
        }
        for (int day = 0; day <= plain.today() && right; day++) {
            for (int what = 0; what <= 12 && right; what++) {
                right = same("end as " + day + ", " + what, house.as(day, what), plain.as(day, what));
            }
        }
        return right;
    }
}
