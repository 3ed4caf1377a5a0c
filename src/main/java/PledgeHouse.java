/** A house that lends on pledges; the promises named here are those of the document. */
public final class PledgeHouse {
    public static final int NONE = -1;

    private static final int NO_SUCH = -1;
    private static final int NOT_SO = -2;
    private static final int CLAIM_WRONG = -3;
    private static final int HALF_WRONG = -4;
    private static final int DAY_WRONG = -5;
    private static final int NUMBER_WRONG = -6;
    private static final int NO_ROOM = -7;

    private static final int LAST_DAY = 7300;
    private static final int MOST_DAYS_AT_ONCE = 400;
    private static final int PLACES = 40;
    private static final int MOST_TICKETS = 511;
    private static final int MOST_ITEMS = 6;
    private static final int MOST_VALUE = 1000000;
    private static final int MOST_BID = 10000000;
    private static final int MOST_FINENESS = 1000;
    private static final int MOST_WEAR = 500;
    private static final int MOST_MONTHS = 12;
    private static final int MOST_WEIGHT = 10000;
    private static final int DAYS_OF_MONTH = 30;
    private static final int DAYS_OF_WEAR = 360;
    private static final int DAYS_OF_OATH = 14;

    private static final int THING = 0;
    private static final int GOLD = 1;
    private static final int LOT = 2;
    private static final int COAT = 3;
    private static final int RARE = 4;
    private static final int BOX = 5;

    private static final int OPEN = 0;
    private static final int REDEEMED = 1;
    private static final int SOLD = 2;
    private static final int PROVED = 3;

    private static final int GRACE = 0;
    private static final int COSTS = 1;
    private static final int DAYS_KEPT = 2;
    private static final int PRICE = 3;
    private static final int RATES = 4;
    private static final int PARTS = 9;
    private static final int RULES = 14;
    private static final int[] RULE_AT_FIRST = {20, 50, 700, 400, 20, 20, 20, 20, 20, 600, 600, 600, 600, 600};
    private static final int[] RULE_LEAST = {0, 0, 1, 1, 0, 0, 0, 0, 0, 1, 1, 1, 1, 1};
    private static final int[] RULE_MOST = {
        200, 500, 2000, 10000, 200, 200, 200, 200, 200, 1000, 1000, 1000, 1000, 1000};

    private static final int LENT = 0;
    private static final int GOT_OF_PRINCIPAL = 2;
    private static final int OPEN_PRINCIPAL = 8;
    private static final int PLEDGES = 11;
    private static final int LAST_SUM = 12;

    private final Holding now = new Holding();
    private final Holding kept = new Holding();
    private boolean isKept;
    private int status;

    public PledgeHouse() {
    }

    public int day(int n) {
        if (n > LAST_DAY - now.today) {
            return answer(DAY_WRONG);
        }
        if (!isWithin(n, 1, MOST_DAYS_AT_ONCE)) {
            return answer(NUMBER_WRONG);
        }
        now.today += n;
        return answer(now.today);
    }

    public int rule(int rule, int v) {
        if (!isWithin(rule, 0, RULES - 1)) {
            return answer(NO_SUCH);
        }
        if (!isWithin(v, RULE_LEAST[rule], RULE_MOST[rule])) {
            return answer(NUMBER_WRONG);
        }
        now.rules[rule] = v;
        return answer(0);
    }

    public int thing(int place, int value) {
        int why = now.whyNotEmpty(place);
        if (why < 0) {
            return answer(why);
        }
        if (!isValue(value)) {
            return answer(NUMBER_WRONG);
        }
        now.putOn(place, new Thing(value));
        return answer(0);
    }

    public int gold(int place, float weight, int fineness) {
        int why = now.whyNotEmpty(place);
        if (why < 0) {
            return answer(why);
        }
        if (!isWeight(weight) || !isWithin(fineness, 1, MOST_FINENESS)) {
            return answer(NUMBER_WRONG);
        }
        Gold pledge = new Gold(GOLD, weight, fineness);
        now.putOn(place, pledge);
        return answer(pledge.hundredths);
    }

    public int coat(int place, int value, int wear) {
        int why = now.whyNotEmpty(place);
        if (why < 0) {
            return answer(why);
        }
        if (!isValue(value) || !isWithin(wear, 0, MOST_WEAR)) {
            return answer(NUMBER_WRONG);
        }
        now.putOn(place, new Coat(value, wear, now.today));
        return answer(0);
    }

    public int rare(int place, float weight) {
        int why = now.whyNotEmpty(place);
        if (why < 0) {
            return answer(why);
        }
        if (!isWeight(weight)) {
            return answer(NUMBER_WRONG);
        }
        Rare pledge = new Rare(weight);
        now.putOn(place, pledge);
        return answer(pledge.hundredths);
    }

    public int second(int place, int value) {
        int why = now.whyNotLoose(place);
        if (why < 0) {
            return answer(why);
        }
        if (!(now.pledgeOn(place) instanceof Rare pledge)) {
            return answer(NOT_SO);
        }
        if (!isValue(value)) {
            return answer(NUMBER_WRONG);
        }
        Rare valued = pledge.withValue(value);
        now.putOn(place, valued);
        return answer(valued.tellers);
    }

    public int item(int place, int value) {
        return answer(addItem(place, value));
    }

    private int addItem(int place, int value) {
        if (now.whyNotEmpty(place) == 0) {
            if (!isValue(value)) {
                return NUMBER_WRONG;
            }
            now.putOn(place, new Lot().with(value));
            return 0;
        }
        int why = now.whyNotLoose(place);
        if (why < 0) {
            return why;
        }
        if (!(now.pledgeOn(place) instanceof Lot lot)) {
            return NOT_SO;
        }
        if (!isValue(value) || lot.came >= MOST_ITEMS) {
            return NUMBER_WRONG;
        }
        now.putOn(place, lot.with(value));
        return lot.came;
    }

    public int box(int place) {
        if (!isPlace(place)) {
            return answer(NO_SUCH);
        }
        if (now.pledgeOn(place) != null) {
            return answer(NOT_SO);
        }
        now.boxes[place] = !now.boxes[place];
        return answer(now.boxes[place] ? 1 : 0);
    }

    public int away(int place) {
        int why = now.whyNotLoose(place);
        if (why < 0) {
            return answer(why);
        }
        now.putOn(place, null);
        return answer(0);
    }

    public int lend(int place, int amount, int months) {
        int why = now.whyNotLoose(place);
        if (why < 0) {
            return answer(why);
        }
        Pledge pledge = now.pledgeOn(place);
        if (pledge == null) {
            return answer(NOT_SO);
        }
        if (!isTerm(months) || amount < 1 || amount > now.borneBy(pledge)) {
            return answer(NUMBER_WRONG);
        }
        if (now.count >= MOST_TICKETS) {
            return answer(NO_ROOM);
        }
        Term term = new Term(now.today, months, now.rateOf(pledge.kind));
        Ticket t = new Ticket(now.count + 1, amount, place, pledge.kind, now.today, term);
        now.count++;
        now.put(t);
        return answer(t.number);
    }

    public int tear(int ticket, int how) {
        Ticket t = now.ticketOf(ticket);
        if (t == null) {
            return answer(NO_SUCH);
        }
        if (t.isTorn()) {
            return answer(NOT_SO);
        }
        if (!isWithin(how, 0, 1)) {
            return answer(NUMBER_WRONG);
        }
        Ticket next = t.on(now.today);
        next.torn = how;
        now.put(next);
        return answer(0);
    }

    public int oath(int ticket) {
        Ticket t = now.ticketOf(ticket);
        int why = whyNotOpen(t);
        if (why < 0) {
            return answer(why);
        }
        Ticket next = t.on(now.today);
        next.oathDay = now.today;
        now.put(next);
        return answer(0);
    }

    public int pay(int ticket, int half, int coins) {
        Ticket t = now.ticketOf(ticket);
        int why = whyNotInTerm(t);
        if (why < 0) {
            return answer(why);
        }
        if (!t.isRight(half, now.today)) {
            return answer(HALF_WRONG);
        }
        if (!isWithin(coins, 1, t.owedOn(now.today) - 1)) {
            return answer(NUMBER_WRONG);
        }
        Ticket next = t.shownOn(now.today, half);
        next.payPart(coins);
        next.former = null;
        now.put(next);
        return answer(next.owedOn(now.today));
    }

    public int renew(int ticket, int half, int months) {
        Ticket t = now.ticketOf(ticket);
        int why = whyNotByHolder(t, half);
        if (why < 0) {
            return answer(why);
        }
        if (!isTerm(months)) {
            return answer(NUMBER_WRONG);
        }
        Ticket next = t.shownOn(now.today, half);
        int coins = next.term.interest;
        next.renewWith(months, now.rateOf(t.kind));
        now.put(next);
        return answer(coins);
    }

    public int undo(int ticket) {
        Ticket t = now.ticketOf(ticket);
        int why = whyNotOpen(t);
        if (why < 0) {
            return answer(why);
        }
        if (t.former == null) {
            return answer(NOT_SO);
        }
        if (t.renewedOn != now.today) {
            return answer(DAY_WRONG);
        }
        Ticket next = t.on(now.today);
        int coins = next.undoRenewing();
        now.put(next);
        return answer(coins);
    }

    public int redeem(int ticket, int half, int coins) {
        Ticket t = now.ticketOf(ticket);
        int why = whyNotByHolder(t, half);
        if (why < 0) {
            return answer(why);
        }
        if (coins != t.owedOn(now.today)) {
            return answer(NUMBER_WRONG);
        }
        Ticket next = t.shownOn(now.today, half);
        next.account.get(next.term.interest, next.principal);
        next.state = REDEEMED;
        now.put(next);
        return answer(0);
    }

    public int out(int ticket, int half, int item) {
        return answer(takeOut(ticket, half, item));
    }

    private int takeOut(int ticket, int half, int item) {
        Ticket t = now.ticketOf(ticket);
        if (t == null || !isWithin(item, 0, MOST_ITEMS - 1)) {
            return NO_SUCH;
        }
        if (!(now.pledgeOn(t.shelf) instanceof Lot lot) || lot.valueOf(item) == 0) {
            return NOT_SO;
        }
        int why = whyNotByHolder(t, half);
        if (why < 0) {
            return why;
        }
        Lot rest = lot.without(item);
        if (rest.items() == 0 || t.owedOn(now.today) > now.borneBy(rest)) {
            return NUMBER_WRONG;
        }
        Ticket next = t.shownOn(now.today, half);
        next.former = null;
        now.put(next);
        now.putOn(t.shelf, rest);
        return (int) now.worthOf(rest);
    }

    public int forfeit(int ticket) {
        Ticket t = now.ticketOf(ticket);
        int why = whyNotInTerm(t);
        if (why < 0) {
            return answer(why);
        }
        if (t.hasClaim()) {
            return answer(CLAIM_WRONG);
        }
        if (now.today < t.firstForfeitDay(now.today, now.rules[GRACE])) {
            return answer(DAY_WRONG);
        }
        Ticket next = t.on(now.today);
        next.isForfeit = true;
        now.put(next);
        return answer(next.owedOn(now.today));
    }

    public int bid(int ticket, int coins) {
        Ticket t = now.ticketOf(ticket);
        int why = whyNotForfeit(t);
        if (why < 0) {
            return answer(why);
        }
        if (!isWithin(coins, 1, MOST_BID)) {
            return answer(NUMBER_WRONG);
        }
        Ticket next = t.on(now.today);
        next.bids++;
        next.highestBid = Math.max(next.highestBid, coins);
        now.put(next);
        return answer(next.bids);
    }

    public int sale(int ticket) {
        Ticket t = now.ticketOf(ticket);
        int why = whyNotForfeit(t);
        if (why < 0) {
            return answer(why);
        }
        if (t.bids == 0) {
            return answer(NOT_SO);
        }
        if (t.hasClaim()) {
            return answer(CLAIM_WRONG);
        }
        Ticket next = t.on(now.today);
        int costs = thousandthsCutUp(t.highestBid, now.rules[COSTS]);
        next.account.sell(t.highestBid, costs, next.term.interest, next.principal);
        next.account.keptTill = now.today + now.rules[DAYS_KEPT];
        next.state = SOLD;
        now.put(next);
        return answer(t.highestBid);
    }

    public int fetch(int ticket, int half) {
        Ticket t = now.ticketOf(ticket);
        if (t == null) {
            return answer(NO_SUCH);
        }
        if (t.account.over == 0 || t.account.isFetched) {
            return answer(NOT_SO);
        }
        if (!t.isRight(half, now.today)) {
            return answer(HALF_WRONG);
        }
        if (now.today > t.account.keptTill) {
            return answer(DAY_WRONG);
        }
        Ticket next = t.shownOn(now.today, half);
        next.account.isFetched = true;
        now.put(next);
        return answer(next.account.over);
    }

    public int claim(int ticket) {
        Ticket t = now.ticketOf(ticket);
        int why = whyNotOpen(t);
        if (why < 0) {
            return answer(why);
        }
        if (t.hasClaim()) {
            return answer(CLAIM_WRONG);
        }
        Ticket next = t.on(now.today);
        next.claimDay = now.today;
        next.former = null;
        now.put(next);
        return answer(0);
    }

    public int drop(int ticket) {
        Ticket t = now.ticketOf(ticket);
        int why = whyNotClaimed(t);
        if (why < 0) {
            return answer(why);
        }
        Ticket next = t.on(now.today);
        next.endClaim(now.today);
        now.put(next);
        return answer(next.term.claimed);
    }

    public int prove(int ticket) {
        Ticket t = now.ticketOf(ticket);
        int why = whyNotClaimed(t);
        if (why < 0) {
            return answer(why);
        }
        Ticket next = t.on(now.today);
        next.endClaim(now.today);
        next.account.lose(next.term.interest, next.principal);
        next.state = PROVED;
        now.put(next);
        return answer(next.account.loss());
    }

    public int image() {
        kept.copyFrom(now);
        isKept = true;
        return answer(0);
    }

    public int back() {
        if (!isKept) {
            return answer(NOT_SO);
        }
        now.copyFrom(kept);
        return answer(0);
    }

    public long place(int place, int what) {
        if (!isPlace(place) || !isWithin(what, 0, 6)) {
            return NONE;
        }
        Pledge pledge = now.pledgeOn(place);
        if (pledge == null) {
            return what != 0 ? 0 : now.boxes[place] ? BOX : NONE;
        }
        switch (what) {
            case 0: return pledge.kind;
            case 1: return now.worthOf(pledge);
            case 2: return now.openOn[place];
            case 3: return pledge.hundredths();
            case 4: return pledge.leftOver();
            case 5: return pledge.items();
            default: return pledge.tellers();
        }
    }

    public int told(int ticket, int what) {
        Ticket t = now.ticketOf(ticket);
        return t == null ? NONE : t.tells(what, now.today, now.rules[GRACE]);
    }

    public int half() {
        Ticket latest = now.ticketOf(now.count);
        return latest == null ? 0 : latest.holdersHalf;
    }

    public long sum(int what) {
        return now.sumOn(now.today, what);
    }

    public long as(int day, int what) {
        return isWithin(day, 0, now.today) ? now.sumOn(day, what) : NONE;
    }

    public int check() {
        long accounted = sum(GOT_OF_PRINCIPAL) + sum(OPEN_PRINCIPAL) + now.lostPrincipal();
        int broken = sum(LENT) == accounted ? 0 : 1;
        return now.areShelvesRight() ? broken : broken + 1;
    }

    public int status() {
        return status;
    }

    private int answer(int a) {
        status = a;
        return a;
    }

    private static int whyNotOpen(Ticket t) {
        if (t == null) {
            return NO_SUCH;
        }
        return t.isOpen() ? 0 : NOT_SO;
    }

    private static int whyNotInTerm(Ticket t) {
        int why = whyNotOpen(t);
        return why < 0 ? why : t.isForfeit ? NOT_SO : 0;
    }

    private static int whyNotForfeit(Ticket t) {
        int why = whyNotOpen(t);
        return why < 0 ? why : t.isForfeit ? 0 : NOT_SO;
    }

    private static int whyNotClaimed(Ticket t) {
        int why = whyNotOpen(t);
        return why < 0 ? why : t.hasClaim() ? 0 : CLAIM_WRONG;
    }

    private int whyNotByHolder(Ticket t, int half) {
        int why = whyNotInTerm(t);
        if (why < 0) {
            return why;
        }
        if (t.hasClaim()) {
            return CLAIM_WRONG;
        }
        return t.isRight(half, now.today) ? 0 : HALF_WRONG;
    }

    private static boolean isWithin(int n, int least, int most) {
        return n >= least && n <= most;
    }

    private static boolean isPlace(int place) {
        return isWithin(place, 0, PLACES - 1);
    }

    private static boolean isValue(int value) {
        return isWithin(value, 1, MOST_VALUE);
    }

    private static boolean isTerm(int months) {
        return isWithin(months, 1, MOST_MONTHS);
    }

    /** What is no number is within no bounds, so both comparisons are asked to hold. */
    private static boolean isWeight(float weight) {
        return weight >= 0f && weight <= (float) MOST_WEIGHT;
    }

    private static int thousandthsCutUp(int coins, int thousandths) {
        return (int) (((long) coins * thousandths + 999) / 1000);
    }

    /**
     * All that image() keeps. Pledges, tallies and tickets that stand here are never changed, only
     * replaced, so that a copy of the references is a copy of all.
     */
    private static final class Holding {
        int today;
        final int[] rules = RULE_AT_FIRST.clone();
        final Pledge[] pledges = new Pledge[PLACES];
        final boolean[] boxes = new boolean[PLACES];
        final int[] openOn = new int[PLACES];
        final Ticket[] tickets = new Ticket[MOST_TICKETS + 1];
        int count;
        Tally tally = new Tally(0, 0, null);

        void copyFrom(Holding other) {
            today = other.today;
            count = other.count;
            tally = other.tally;
            for (int rule = 0; rule < RULES; rule++) {
                rules[rule] = other.rules[rule];
            }
            for (int place = 0; place < PLACES; place++) {
                pledges[place] = other.pledges[place];
                boxes[place] = other.boxes[place];
                openOn[place] = other.openOn[place];
            }
            for (int number = 1; number <= MOST_TICKETS && number <= count; number++) {
                tickets[number] = other.tickets[number];
            }
        }

        Pledge pledgeOn(int place) {
            return isPlace(place) ? pledges[place] : null;
        }

        int whyNotEmpty(int place) {
            if (!isPlace(place)) {
                return NO_SUCH;
            }
            return pledges[place] == null && !boxes[place] ? 0 : NOT_SO;
        }

        int whyNotLoose(int place) {
            if (!isPlace(place)) {
                return NO_SUCH;
            }
            return pledges[place] != null && openOn[place] == 0 ? 0 : NOT_SO;
        }

        /** Null takes away what is there. */
        void putOn(int place, Pledge pledge) {
            if (!isPlace(place)) {
                return;
            }
            int change = (pledge == null ? 0 : 1) - (pledges[place] == null ? 0 : 1);
            pledges[place] = pledge;
            if (change != 0) {
                tally = tally.changedOn(today, change);
            }
        }

        Ticket ticketOf(int number) {
            return isWithin(number, 1, Math.min(count, MOST_TICKETS)) ? tickets[number] : null;
        }

        void put(Ticket t) {
            if (!isWithin(t.number, 1, MOST_TICKETS) || !isPlace(t.shelf)) {
                return;
            }
            boolean closes = !t.isOpen() && openOn[t.shelf] == t.number;
            tickets[t.number] = t;
            if (closes) {
                openOn[t.shelf] = 0;
                putOn(t.shelf, null);
            } else if (t.isOpen()) {
                openOn[t.shelf] = t.number;
            }
        }

        long worthOf(Pledge pledge) {
            return pledge.worthOn(today, rules[PRICE]);
        }

        int rateOf(int kind) {
            return isWithin(kind, THING, RARE) ? rules[RATES + kind] : 0;
        }

        long borneBy(Pledge pledge) {
            int part = isWithin(pledge.kind, THING, RARE) ? rules[PARTS + pledge.kind] : 0;
            return worthOf(pledge) * part / 1000;
        }

        long sumOn(int day, int what) {
            if (!isWithin(what, 0, LAST_SUM)) {
                return NONE;
            }
            if (what == PLEDGES) {
                return tally.pledgesOn(day);
            }
            long total = 0;
            for (int number = 1; number <= count; number++) {
                Ticket t = ticketOf(number);
                Ticket then = t == null ? null : t.versionOf(day);
                total += then == null ? 0 : then.addsTo(what, day);
            }
            return total;
        }

        long lostPrincipal() {
            long total = 0;
            for (int number = 1; number <= count; number++) {
                Ticket t = ticketOf(number);
                total += t == null ? 0 : t.account.lostPrincipal;
            }
            return total;
        }

        /** A place holds one ticket's number, so two OPEN tickets on it can't both find theirs. */
        boolean areShelvesRight() {
            for (int number = 1; number <= count; number++) {
                Ticket t = ticketOf(number);
                if (t != null && t.isOpen()
                        && (pledgeOn(t.shelf) == null || openOn[t.shelf] != number)) {
                    return false;
                }
            }
            return true;
        }
    }

    /** How many pledges there were from a day on; the chain behind it tells earlier days. */
    private static final class Tally {
        final int since;
        final int pledges;
        final Tally before;

        Tally(int since, int pledges, Tally before) {
            this.since = since;
            this.pledges = pledges;
            this.before = before;
        }

        Tally changedOn(int day, int change) {
            return new Tally(day, pledges + change, since == day ? before : this);
        }

        int pledgesOn(int day) {
            for (Tally t = this; t != null; t = t.before) {
                if (t.since <= day) {
                    return t.pledges;
                }
            }
            return 0;
        }
    }

    private abstract static class Pledge {
        final int kind;

        Pledge(int kind) {
            this.kind = kind;
        }

        abstract long worthOn(int day, int price);

        int hundredths() {
            return 0;
        }

        int leftOver() {
            return 0;
        }

        int items() {
            return 0;
        }

        int tellers() {
            return 0;
        }
    }

    private static final class Thing extends Pledge {
        final int value;

        Thing(int value) {
            super(THING);
            this.value = value;
        }

        long worthOn(int day, int price) {
            return value;
        }
    }

    private static class Gold extends Pledge {
        final int hundredths;
        final int leftOver;
        final int fineness;

        Gold(int kind, float weight, int fineness) {
            super(kind);
            float exact = weight * 100f;
            this.hundredths = (int) exact;
            this.leftOver = (int) ((exact - (float) hundredths) * 1000f);
            this.fineness = fineness;
        }

        /** Takes over what was weighed, as the weight itself is not held. */
        Gold(Gold other) {
            super(other.kind);
            this.hundredths = other.hundredths;
            this.leftOver = other.leftOver;
            this.fineness = other.fineness;
        }

        long worthOn(int day, int price) {
            return (long) hundredths * fineness * price / 1000000;
        }

        int hundredths() {
            return hundredths;
        }

        int leftOver() {
            return leftOver;
        }
    }

    private static final class Rare extends Gold {
        final int tellers;
        final int latest;
        final int secondLatest;

        /** Its fineness is asked nowhere: it is worth what is told of it. */
        Rare(float weight) {
            super(RARE, weight, MOST_FINENESS);
            this.tellers = 0;
            this.latest = 0;
            this.secondLatest = 0;
        }

        Rare(Rare other, int value) {
            super(other);
            this.tellers = other.tellers + 1;
            this.latest = value;
            this.secondLatest = other.latest;
        }

        Rare withValue(int value) {
            return new Rare(this, value);
        }

        long worthOn(int day, int price) {
            return Math.min(latest, secondLatest);
        }

        int tellers() {
            return tellers;
        }
    }

    private static final class Coat extends Pledge {
        final int value;
        final int wear;
        final int cameOn;

        Coat(int value, int wear, int cameOn) {
            super(COAT);
            this.value = value;
            this.wear = wear;
            this.cameOn = cameOn;
        }

        long worthOn(int day, int price) {
            int left = 1000 - wear * ((day - cameOn) / DAYS_OF_WEAR);
            return left <= 0 ? 0 : (long) value * left / 1000;
        }
    }

    /** Values stand by the items' numbers; 0 is an item that is not in it. */
    private static final class Lot extends Pledge {
        final int[] values = new int[MOST_ITEMS];
        int came;

        Lot() {
            super(LOT);
        }

        Lot with(int value) {
            Lot more = twin();
            if (came < MOST_ITEMS) {
                more.values[came] = value;
                more.came = came + 1;
            }
            return more;
        }

        Lot without(int item) {
            Lot less = twin();
            if (isWithin(item, 0, MOST_ITEMS - 1)) {
                less.values[item] = 0;
            }
            return less;
        }

        private Lot twin() {
            Lot twin = new Lot();
            twin.came = came;
            for (int item = 0; item < MOST_ITEMS; item++) {
                twin.values[item] = values[item];
            }
            return twin;
        }

        int valueOf(int item) {
            return isWithin(item, 0, MOST_ITEMS - 1) ? values[item] : 0;
        }

        long worthOn(int day, int price) {
            long worth = 0;
            for (int value : values) {
                worth += value;
            }
            return worth;
        }

        int items() {
            int there = 0;
            for (int value : values) {
                there += value == 0 ? 0 : 1;
            }
            return there;
        }
    }

    /** A TERM with the INTEREST of the months counted so far; never changed, so undo() can have it back. */
    private static final class Term {
        final int start;
        final int months;
        final int rate;
        final int begun;
        final int interest;
        final int claimed;

        Term(int start, int months, int rate) {
            this.start = start;
            this.months = months;
            this.rate = rate;
            this.begun = 0;
            this.interest = 0;
            this.claimed = 0;
        }

        private Term(Term other, int begun, int interest, int claimed) {
            this.start = other.start;
            this.months = other.months;
            this.rate = other.rate;
            this.begun = begun;
            this.interest = interest;
            this.claimed = claimed;
        }

        int begunOn(int day) {
            return day < start ? 0 : (day - start) / DAYS_OF_MONTH + 1;
        }

        int interestOn(int day, int principal) {
            return interest + (begunOn(day) - begun) * thousandthsCutUp(principal, rate);
        }

        Term grownTo(int day, int principal) {
            return new Term(this, begunOn(day), interestOn(day, principal), claimed);
        }

        Term withInterest(int coins) {
            return new Term(this, begun, coins, claimed);
        }

        Term withClaimed(int days) {
            return new Term(this, begun, interest, days);
        }

        Term renewed(int newMonths, int newRate) {
            return new Term(start + DAYS_OF_MONTH * begun, newMonths, newRate);
        }

        int end() {
            return start + DAYS_OF_MONTH * months;
        }

        int claimedWith(int from, int till) {
            return claimed + Math.max(0, till - Math.max(from, end()));
        }
    }

    /** What came of a ticket in coins. */
    private static final class Account {
        int gotInterest;
        int gotPrincipal;
        int costs;
        int lostInterest;
        int lostPrincipal;
        int over;
        int keptTill;
        boolean isFetched;

        Account twin() {
            Account twin = new Account();
            twin.gotInterest = gotInterest;
            twin.gotPrincipal = gotPrincipal;
            twin.costs = costs;
            twin.lostInterest = lostInterest;
            twin.lostPrincipal = lostPrincipal;
            twin.over = over;
            twin.keptTill = keptTill;
            twin.isFetched = isFetched;
            return twin;
        }

        void get(int interest, int principal) {
            gotInterest += interest;
            gotPrincipal += principal;
        }

        void lose(int interest, int principal) {
            lostInterest += interest;
            lostPrincipal += principal;
        }

        void sell(int coins, int costsOfIt, int interest, int principal) {
            int forInterest = Math.min(coins - costsOfIt, interest);
            int forPrincipal = Math.min(coins - costsOfIt - forInterest, principal);
            costs = costsOfIt;
            get(forInterest, forPrincipal);
            lose(interest - forInterest, principal - forPrincipal);
            over = coins - costsOfIt - forInterest - forPrincipal;
        }

        int loss() {
            return lostInterest + lostPrincipal;
        }

        /** 0 kept for the holder (or none), 1 fetched, 2 the house's. */
        int overStandsOn(int day) {
            if (isFetched) {
                return 1;
            }
            return over > 0 && day > keptTill ? 2 : 0;
        }
    }

    /**
     * A ticket as it was from a day on, till the next version of it; the chain behind it tells earlier
     * days. A version is changed only by the act that makes it, before it is put.
     */
    private static final class Ticket {
        final int number;
        final int loan;
        final int shelf;
        final int kind;
        final int holdersHalf;
        final int since;
        final Ticket before;
        final Account account;
        Term term;
        Term former;
        int renewedOn = NONE;
        int state = OPEN;
        int principal;
        boolean isForfeit;
        int claimDay = NONE;
        int torn = NONE;
        int oathDay = NONE;
        int bids;
        int highestBid;

        Ticket(int number, int loan, int shelf, int kind, int day, Term term) {
            this.number = number;
            this.loan = loan;
            this.shelf = shelf;
            this.kind = kind;
            this.holdersHalf = 1000 * number + (7 * loan + 13 * day) % 1000;
            this.since = day;
            this.before = null;
            this.account = new Account();
            this.term = term.grownTo(day, loan);
            this.principal = loan;
        }

        /** Of a day only its end is told, so a version of the same day is left out of the chain. */
        private Ticket(Ticket old, int day) {
            this.number = old.number;
            this.loan = old.loan;
            this.shelf = old.shelf;
            this.kind = old.kind;
            this.holdersHalf = old.holdersHalf;
            this.since = day;
            this.before = old.since == day ? old.before : old;
            this.account = old.account.twin();
            this.term = old.isOpen() ? old.term.grownTo(day, old.principal) : old.term;
            this.former = old.former;
            this.renewedOn = old.renewedOn;
            this.state = old.state;
            this.principal = old.principal;
            this.isForfeit = old.isForfeit;
            this.claimDay = old.claimDay;
            this.torn = old.torn;
            this.oathDay = old.oathDay;
            this.bids = old.bids;
            this.highestBid = old.highestBid;
        }

        Ticket on(int day) {
            return new Ticket(this, day);
        }

        /** A RIGHT half ends an OATH; who shows none leaves it. */
        Ticket shownOn(int day, int shown) {
            Ticket next = on(day);
            if (shown != 0) {
                next.oathDay = NONE;
            }
            return next;
        }

        Ticket versionOf(int day) {
            for (Ticket t = this; t != null; t = t.before) {
                if (t.since <= day) {
                    return t;
                }
            }
            return null;
        }

        boolean isOpen() {
            return state == OPEN;
        }

        boolean isTorn() {
            return torn != NONE;
        }

        boolean hasClaim() {
            return claimDay != NONE;
        }

        boolean isRight(int shown, int day) {
            if (shown == 0) {
                return oathDay != NONE && day - oathDay >= DAYS_OF_OATH;
            }
            if (isTorn()) {
                return isWithin(shown, 1000 * number, 1000 * number + 999);
            }
            return shown == holdersHalf;
        }

        int interestOn(int day) {
            return isOpen() ? term.interestOn(day, principal) : term.interest;
        }

        int owedOn(int day) {
            return principal + interestOn(day);
        }

        int firstForfeitDay(int day, int grace) {
            int claimed = hasClaim() ? term.claimedWith(claimDay, day) : term.claimed;
            return term.end() + grace + claimed;
        }

        void payPart(int coins) {
            int forInterest = Math.min(coins, term.interest);
            int forPrincipal = coins - forInterest;
            term = term.withInterest(term.interest - forInterest);
            principal -= forPrincipal;
            account.get(forInterest, forPrincipal);
        }

        void renewWith(int months, int rate) {
            account.get(term.interest, 0);
            former = term;
            renewedOn = since;
            term = term.renewed(months, rate);
        }

        int undoRenewing() {
            if (former == null) {
                return 0;
            }
            int coins = former.interest;
            account.get(-coins, 0);
            term = former;
            former = null;
            return coins;
        }

        void endClaim(int day) {
            term = term.withClaimed(term.claimedWith(claimDay, day));
            claimDay = NONE;
        }

        int tells(int what, int day, int grace) {
            switch (what) {
                case 0: return state;
                case 1: return principal;
                case 2: return interestOn(day);
                case 3: return isOpen() ? term.begunOn(day) : term.begun;
                case 4: return term.start;
                case 5: return term.months;
                case 6: return term.rate;
                case 7: return isForfeit ? 1 : 0;
                case 8: return firstForfeitDay(day, grace);
                case 9: return hasClaim() ? 1 : 0;
                case 10: return term.claimed;
                case 11: return highestBid;
                case 12: return account.over;
                case 13: return account.overStandsOn(day);
                case 14: return shelf;
                case 15: return torn == 0 ? NONE : number;
                case 16: return isTorn() ? NONE : holdersHalf;
                case 17: return oathDay;
                default: return NONE;
            }
        }

        long addsTo(int what, int day) {
            switch (what) {
                case 0: return loan;
                case 1: return account.gotInterest;
                case 2: return account.gotPrincipal;
                case 3: return account.costs;
                case 4:
                case 5:
                case 6: return account.overStandsOn(day) == what - 4 ? account.over : 0;
                case 7: return account.loss();
                case 8: return isOpen() ? principal : 0;
                case 9: return isOpen() ? interestOn(day) : 0;
                case 10: return isOpen() ? 1 : 0;
                case 12: return 1;
                default: return 0;
            }
        }
    }
}
