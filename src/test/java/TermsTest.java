/** The document's terms from their first word to their last: each sentence stands here, with calls that show it. */
public final class TermsTest {
    private static final Due DUE = new Due("TermsTest");
    private static final Document DOC = Document.between(DUE, "## Terms", "## Promise 1: A new object");
    /** On day 11, half 1253: 15 coins of INTEREST a month, months begin on 11, 41, 71, 101; may be FORFEIT on 91. */
    private static final String LENT = "day(11) thing(39, 2000) lend(39, 730, 2) ";
    /** On day 91: 775 are OWED. */
    private static final String FORFEIT = LENT + "day(80) forfeit(1) ";
    /** COSTS 50, OVER 175. */
    private static final String SOLD = FORFEIT + "bid(1, 1000) sale(1) ";
    /** On day 11, half 1243: 6 coins of INTEREST a month, may be FORFEIT on 91. */
    private static final String LOT = "day(11) item(39, 900) item(39, 700) item(39, 400) lend(39, 300, 2) ";
    /** A pledge of each KIND, worth 1,000, on place 39. */
    private static final String[] KINDS = {
        "thing(39, 1000) ", "gold(39, 25, 1000) ", "item(39, 300) item(39, 700) ", "coat(39, 1000, 100) ",
        "rare(39, 2) second(39, 1200) second(39, 1000) "};

    public static void main(String[] args) {
        daysAndRules();
        ratesAndParts();
        kindsAndPlaces();
        worth();
        loans();
        interest();
        payingAndRenewing();
        undoing();
        redeemingAndForfeits();
        claimedDays();
        takingOut();
        sales();
        claims();
        halves();
        refusedActs();
        noMoreRoom();
        status();
        DOC.ends();
        DUE.end();
    }

    /** The next words of the document. */
    private static Edges says(String quote) {
        return DOC.says(quote);
    }

    private static void daysAndRules() {
        says("1. DAYS are 0 at first, 7,300 at most.").looks("as(0, 12)", 0).looks("as(1, 12)", -1)
            .taken("day(1)", 1)
            .in(Edges.days(7299)).taken("day(1)", 7300).refused("day(2)", -5)
            .in(Edges.days(7300)).refused("day(1)", -5).looks("as(7300, 12)", 0);
        says("Coins are whole.")
            .in("thing(39, 3)").taken("lend(39, 1, 1)", 1).refused("lend(39, 2, 1)", -6)
            .in("thing(39, 3) lend(39, 1, 1)").tells(1, 1, 1, 1).sums(8, 1, 1);
        bounds(says("RULES, each with its value at first: 0 grace in days (20; 0 .. 200),"), 0, 0, 200)
            .in(LENT + "day(79)").refused("forfeit(1)", -5)
            .in(LENT + "day(80)").taken("forfeit(1)", 775)
            .in(LENT + "rule(0, 0) day(59)").refused("forfeit(1)", -5)
            .in(LENT + "rule(0, 0) day(60)").taken("forfeit(1)", 775)
            .in(LENT + "rule(0, 200) day(259)").refused("forfeit(1)", -5)
            .in(LENT + "rule(0, 200) day(260)").taken("forfeit(1)", 865);
        bounds(says("1 costs of a sale in thousandths (50; 0 .. 500),"), 1, 0, 500)
            .in(FORFEIT + "bid(1, 1010) sale(1)").sums(3, 51, 184)
            .in(FORFEIT + "rule(1, 0) bid(1, 1010) sale(1)").sums(3, 0, 235)
            .in(FORFEIT + "rule(1, 500) bid(1, 1010) sale(1)").sums(3, 505, 0).sums(7, 270);
        bounds(says("2 days that an over is kept (700; 1 .. 2,000),"), 2, 1, 2000)
            .in(SOLD + Edges.days(700)).taken("fetch(1, 1253)", 175)
            .in(SOLD + Edges.days(701)).refused("fetch(1, 1253)", -5)
            .in("rule(2, 1) " + SOLD + "day(1)").taken("fetch(1, 1253)", 175)
            .in("rule(2, 1) " + SOLD + "day(2)").refused("fetch(1, 1253)", -5);
        bounds(says("3 price of a hundredth of fine gold in thousandths of a coin (400; 1 .. 10,000),"), 3, 1, 10000)
            .in("gold(39, 3, 1000)").looks("place(39, 1)", 120)
            .in("gold(39, 3, 1000) rule(3, 10000)").looks("place(39, 1)", 3000)
            .in("gold(39, 30, 1000) rule(3, 1)").looks("place(39, 1)", 3);
    }

    private static Edges bounds(Edges at, int rule, int least, int most) {
        String call = "rule(" + rule + ", ";
        return at.refused(call + (least - 1) + ")", -6).taken(call + least + ")", 0).taken(call + most + ")", 0)
            .refused(call + (most + 1) + ")", -6);
    }

    private static void ratesAndParts() {
        Edges rates = says("4 + k RATE of kind k in thousandths a month (20; 0 .. 200),");
        Edges parts = says("9 + k PART of kind k in thousandths (600; 1 .. 1,000).");
        String otherRates = "rule(4, 10) rule(5, 30) rule(6, 50) rule(7, 70) rule(8, 90) ";
        String otherParts = "rule(9, 100) rule(10, 200) rule(11, 300) rule(12, 400) rule(13, 500) ";
        for (int k = 0; k < 5; k++) {
            bounds(rates, 4 + k, 0, 200)
                .in(KINDS[k] + "lend(39, 500, 1)").tells(1, 6, 20).tells(1, 2, 10);
            rates.in(otherRates + KINDS[k] + "lend(39, 500, 1)").tells(1, 6, 10 + 20 * k).tells(1, 2, 5 + 10 * k);
            bounds(parts, 9 + k, 1, 1000)
                .in(KINDS[k]).taken("lend(39, 600, 1)", 1).refused("lend(39, 601, 1)", -6);
            int most = 100 + 100 * k;
            parts.in(otherParts + KINDS[k]).taken("lend(39, " + most + ", 1)", 1)
                .refused("lend(39, " + (most + 1) + ", 1)", -6);
        }
    }

    private static void kindsAndPlaces() {
        Edges kinds = says("KINDS: 0 THING, 1 GOLD, 2 LOT, 3 COAT, 4 RARE.");
        for (int k = 0; k < 5; k++) {
            kinds.in(KINDS[k]).looks("place(39, 0)", k)
                .in(KINDS[k] + "lend(39, 9, 1)").looks("place(39, 0)", k);
        }
        Edges places = says("PLACES are 0 .. 39; on each a pledge, an empty BOX, or nothing.");
        for (int place = 0; place < 40; place++) {
            String there = "(" + place + ", ";
            places.looks("place" + there + "0)", -1)
                .in("box(" + place + ")").looks("place" + there + "0)", 5)
                .in("thing" + there + "9)").looks("place" + there + "0)", 0);
        }
        for (String none : new String[] {"-1", "40", "min", "max"}) {
            places.refused("thing(" + none + ", 9)", -1).refused("box(" + none + ")", -1)
                .looks("place(" + none + ", 0)", -1);
        }
        places.in("box(39)").refused("thing(39, 9)", -2).refused("item(39, 9)", -2).refused("away(39)", -2)
            .refused("lend(39, 1, 1)", -2);
        places.in("thing(39, 9)").refused("box(39)", -2).refused("coat(39, 9, 9)", -2).taken("away(39)", 0);
    }

    private static void worth() {
        says("WORTH, in whole coins, cut: THING: its value.")
            .in("thing(39, 777)").looks("place(39, 1)", 777)
            .in("thing(39, 777) " + Edges.days(7300)).looks("place(39, 1)", 777);
        weights(says("""
            GOLD: its weight (a float, 0 .. 10,000) times 100, as floats are multiplied, cut to a whole number of
            HUNDREDTHS (what is left over: the part behind the point, times 1,000 as floats, cut),"""));
        says("times fineness (1 .. 1,000), times the price, by 1,000,000.").refused("gold(39, 1, 0)", -6)
            .taken("gold(39, 1, 1)", 100).taken("gold(39, 1, 1000)", 100).refused("gold(39, 1, 1001)", -6)
            .in("gold(39, 2.01, 875)").looks("place(39, 1)", 70)
            .in("gold(39, 2.01, 875) rule(3, 405)").looks("place(39, 1)", 71)
            .in("gold(39, 4096.03, 750) rule(3, 9999)").looks("place(39, 1)", 3071707);
        says("LOT: the values of the items in it, together.")
            .in("item(39, 300) item(39, 70) item(39, 5)").looks("place(39, 1)", 375)
            .in(LOT).looks("place(39, 1)", 2000)
            .in(LOT + "out(1, 1243, 1)").looks("place(39, 1)", 1300);
        says("""
            COAT: its value times (1,000 less the wear, for each full 360 days since it came), by 1,000, cut (0 at
            least).""")
            .in("day(5) coat(39, 777, 125) day(359)").looks("place(39, 1)", 777)
            .in("day(5) coat(39, 777, 125) day(360)").looks("place(39, 1)", 679)
            .in("day(5) coat(39, 777, 125) " + Edges.days(720)).looks("place(39, 1)", 582)
            .in("day(5) coat(39, 777, 125) " + Edges.days(2520)).looks("place(39, 1)", 97)
            .in("day(5) coat(39, 777, 125) " + Edges.days(2880)).looks("place(39, 1)", 0)
            .in("day(5) coat(39, 777, 125) " + Edges.days(3240)).looks("place(39, 1)", 0);
        says("RARE: the lower one of the values that two told; 0 ahead of that.")
            .in("rare(39, 9)").looks("place(39, 1)", 0)
            .in("rare(39, 9) second(39, 80)").looks("place(39, 1)", 0)
            .in("rare(39, 9) second(39, 80) second(39, 79)").looks("place(39, 1)", 79)
            .in("rare(39, 9) second(39, 79) second(39, 80)").looks("place(39, 1)", 79);
        says("Values are 1 .. 1,000,000.").refused("thing(39, 0)", -6).taken("thing(39, 1)", 0)
            .taken("thing(39, 1000000)", 0).refused("thing(39, 1000001)", -6).refused("item(39, 0)", -6)
            .taken("item(39, 1)", 0).taken("item(39, 1000000)", 0).refused("item(39, 1000001)", -6)
            .refused("coat(39, 0, 9)", -6).taken("coat(39, 1, 9)", 0).taken("coat(39, 1000000, 9)", 0)
            .refused("coat(39, 1000001, 9)", -6)
            .in("rare(39, 1)").refused("second(39, 0)", -6).taken("second(39, 1)", 1).taken("second(39, 1000000)", 1)
            .refused("second(39, 1000001)", -6);
    }

    private static void weights(Edges at) {
        String[] weights = {"0", "0.005", "0.333", "0.57", "2.01", "1.2345", "12.345678", "3.999999", "4096.03",
            "10000"};
        int[] hundredths = {0, 0, 33, 57, 201, 123, 1234, 399, 409602, 1000000};
        int[] leftOver = {0, 500, 299, 0, 0, 450, 567, 999, 968, 0};
        for (int i = 0; i < weights.length; i++) {
            String gold = "gold(39, " + weights[i] + ", 1000)";
            at.taken(gold, hundredths[i])
                .in(gold).looks("place(39, 3)", hundredths[i]).looks("place(39, 4)", leftOver[i])
                .looks("place(39, 1)", hundredths[i] * 400L / 1000);
        }
        at.refused("gold(39, -0.001, 500)", -6).refused("gold(39, 10000.001, 500)", -6)
            .refused("gold(39, NaN, 500)", -6).refused("gold(39, Infinity, 500)", -6);
    }

    private static void loans() {
        says("2. TICKETS have numbers 1, 2, .. .")
            .in("thing(1, 10)").taken("lend(1, 5, 1)", 1)
            .in(LENT + "thing(1, 10)").taken("lend(1, 5, 1)", 2).refused("lend(1, 7, 1)", -6)
            .in(LENT + "redeem(1, 1253, 745) thing(1, 10) lend(1, 5, 1) thing(39, 10)").taken("lend(39, 5, 1)", 3);
        says("A LOAN is at least 1 and at most the WORTH times the PART, by 1,000, cut.")
            .in("thing(39, 2001)").refused("lend(39, 0, 1)", -6).taken("lend(39, 1, 1)", 1)
            .taken("lend(39, 1200, 1)", 1).refused("lend(39, 1201, 1)", -6)
            .in("thing(39, 1)").refused("lend(39, 1, 1)", -6);
        says("Its TERM is 1 .. 12 months of 30 days, from its START on.")
            .in("thing(39, 2000)").refused("lend(39, 9, 0)", -6).taken("lend(39, 9, 1)", 1)
            .taken("lend(39, 9, 12)", 1).refused("lend(39, 9, 13)", -6)
            .in(LENT).tells(1, 4, 11, 2).tells(1, 8, 91)
            .in("day(11) thing(39, 2000) lend(39, 730, 12)").tells(1, 4, 11, 12).tells(1, 8, 391);
        says("""
            Month m (from 0 on) begins on START + 30 m; the months that began are those with a beginning up to the
            DAY.""")
            .in(LENT).tells(1, 3, 1)
            .in(LENT + "day(29)").tells(1, 3, 1)
            .in(LENT + "day(30)").tells(1, 3, 2)
            .in(LENT + "day(59)").tells(1, 3, 2)
            .in(LENT + "day(60)").tells(1, 3, 3);
        says("PRINCIPAL is the LOAN at first.")
            .in(LENT).tells(1, 1, 730).sums(8, 730)
            .in(LENT + "day(400)").tells(1, 1, 730).sums(8, 730);
    }

    private static void interest() {
        says("As a month begins INTEREST grows by the PRINCIPAL times the RATE, by 1,000, cut up to a coin;")
            .in(LENT).tells(1, 2, 15)
            .in(LENT + "day(29)").tells(1, 2, 15)
            .in(LENT + "day(30)").tells(1, 2, 30)
            .in("thing(39, 2000) lend(39, 700, 1)").tells(1, 2, 14)
            .in("thing(39, 2000) lend(39, 701, 1)").tells(1, 2, 15)
            .in("thing(39, 2000) rule(4, 1) lend(39, 1000, 1)").tells(1, 2, 1)
            .in("thing(39, 2000) rule(4, 1) lend(39, 1001, 1)").tells(1, 2, 2)
            .in(LENT + "pay(1, 1253, 45) day(29)").tells(1, 1, 700, 0)
            .in(LENT + "pay(1, 1253, 45) day(30)").tells(1, 1, 700, 14)
            .in(LENT + "day(30) pay(1, 1253, 60) day(30)").tells(1, 1, 700, 14)
            .in(LENT + "pay(1, 1253, 5) day(60)").tells(1, 1, 730, 40);
        says("""
            the RATE is that of the pledge's kind on the day on which the TERM began (the day of lending, of
            renewing), for good.""")
            .in(LENT + "rule(4, 100) day(30)").tells(1, 6, 20).tells(1, 2, 30)
            .in(LENT + "rule(4, 100) renew(1, 1253, 3) day(30)").tells(1, 6, 100).tells(1, 2, 73)
            .in(LENT + "renew(1, 1253, 3) rule(4, 100) day(30)").tells(1, 6, 20).tells(1, 2, 15)
            .in(LENT + "rule(5, 100) renew(1, 1253, 3) day(30)").tells(1, 6, 20).tells(1, 2, 15);
        says("OWED is PRINCIPAL and INTEREST.")
            .in(LENT).refused("redeem(1, 1253, 744)", -6).taken("redeem(1, 1253, 745)", 0)
            .refused("redeem(1, 1253, 746)", -6).taken("pay(1, 1253, 100)", 645)
            .in(LENT + "day(80)").taken("forfeit(1)", 775);
        says("(Months go on beginning as long as the ticket is OPEN, behind the TERM too.)")
            .in(LENT + "day(90)").tells(1, 2, 60, 4)
            .in(FORFEIT + "day(9)").tells(1, 2, 45, 3)
            .in(FORFEIT + "day(10)").tells(1, 2, 60, 4)
            .in(FORFEIT + "claim(1) day(10)").tells(1, 2, 60, 4)
            .in(SOLD + "day(10)").tells(1, 2, 45, 3).sums(9, 0);
    }

    private static void payingAndRenewing() {
        says("PAYING a part (1 .. OWED less 1): INTEREST first, then the PRINCIPAL is less.")
            .in(LENT).refused("pay(1, 1253, 0)", -6).taken("pay(1, 1253, 1)", 744).taken("pay(1, 1253, 744)", 1)
            .refused("pay(1, 1253, 745)", -6)
            .in(LENT + "pay(1, 1253, 14)").tells(1, 1, 730, 1).sums(1, 14, 0)
            .in(LENT + "pay(1, 1253, 15)").tells(1, 1, 730, 0).sums(1, 15, 0)
            .in(LENT + "pay(1, 1253, 16)").tells(1, 1, 729, 0).sums(1, 15, 1);
        String renewed = LENT + "day(45) renew(1, 1253, 5) ";
        says("""
            RENEWING pays the INTEREST: START is then where the next month begins that did not begin yet; no month has
            begun; the TERM begins anew, with as many months as told.""")
            .in(LENT + "day(45)").taken("renew(1, 1253, 5)", 30).refused("renew(1, 1253, 0)", -6)
            .refused("renew(1, 1253, 13)", -6)
            .in(renewed).tells(1, 1, 730, 0, 0, 71, 5, 20, 0, 241).sums(1, 30, 0)
            .in(LENT + "day(30) renew(1, 1253, 1)").tells(1, 2, 0, 0, 71, 1)
            .in(LENT + "day(29) renew(1, 1253, 1)").tells(1, 2, 0, 0, 41, 1);
        says("(While the DAY is below START no month has begun.)")
            .in(renewed + "day(14)").tells(1, 2, 0, 0, 71).taken("renew(1, 1253, 1)", 0)
            .taken("redeem(1, 1253, 730)", 0)
            .in(renewed + "day(14) renew(1, 1253, 1)").tells(1, 2, 0, 0, 71, 1)
            .in(renewed + "day(15)").tells(1, 2, 15, 1, 71);
    }

    private static void undoing() {
        String claimed = LENT + "day(75) claim(1) day(4) drop(1) rule(4, 50) ";
        String renewed = claimed + "renew(1, 1253, 5) ";
        int[] asItWas = {0, 730, 45, 3, 11, 2, 20, 0, 95, 0, 4};
        Edges at = says("""
            On its day the latest renewing may be undone, if the ticket was not paid, renewed, taken out of or claimed
            since, and is OPEN: START, TERM, RATE, months, INTEREST, CLAIMED days are as they were, and the coins go
            back (then there is none to be undone).""");
        at.in(claimed).tells(1, 0, asItWas).refused("undo(1)", -2);
        at.in(renewed).tells(1, 0, 0, 730, 0, 0, 101, 5, 50, 0, 271, 0, 0).sums(1, 45).taken("undo(1)", 45);
        at.in(renewed + "undo(1)").tells(1, 0, asItWas).sums(1, 0).sums(8, 730, 45).refused("undo(1)", -2);
        at.in(renewed + "day(1)").refused("undo(1)", -5);
        at.in(renewed + "pay(1, 1253, 1)").refused("undo(1)", -2);
        at.in(renewed + "claim(1)").refused("undo(1)", -2)
            .in(renewed + "claim(1) drop(1)").refused("undo(1)", -2);
        at.in(renewed + "renew(1, 1253, 2)").taken("undo(1)", 0);
        at.in(renewed + "renew(1, 1253, 2) undo(1)").tells(1, 4, 101, 5, 50).refused("undo(1)", -2);
        at.in(renewed + "redeem(1, 1253, 730)").refused("undo(1)", -2);
        at.in(LOT + "renew(1, 1243, 3)").taken("undo(1)", 6);
        at.in(LOT + "renew(1, 1243, 3) out(1, 1243, 2)").refused("undo(1)", -2);
    }

    private static void redeemingAndForfeits() {
        says("REDEEMING pays what is OWED: the pledge is given back.")
            .in(LENT + "day(30)").taken("redeem(1, 1253, 760)", 0)
            .in(LENT + "day(30) redeem(1, 1253, 760)").looks("place(39, 0)", -1).sums(1, 30, 730)
            .sums(7, 0, 0, 0, 0, 0).taken("thing(39, 9)", 0);
        says("A ticket is OPEN till it is 1 REDEEMED, 2 SOLD or 3 PROVED; its pledge is on its place as long.")
            .in(LENT).tells(1, 0, 0).looks("place(39, 0)", 0).looks("place(39, 2)", 1)
            .in(FORFEIT + "claim(1)").tells(1, 0, 0).looks("place(39, 0)", 0).looks("place(39, 2)", 1)
            .in(LENT + "redeem(1, 1253, 745)").tells(1, 0, 1).looks("place(39, 0)", -1)
            .in(SOLD).tells(1, 0, 2).looks("place(39, 0)", -1).looks("place(39, 2)", 0)
            .in(LENT + "claim(1) prove(1)").tells(1, 0, 3).looks("place(39, 0)", -1);
        says("It is FORFEIT by an act, on a day not below START + 30 TERM + grace (as it is now) + CLAIMED days;")
            .in(LENT + "day(79)").refused("forfeit(1)", -5)
            .in(LENT + "day(80)").tells(1, 7, 0).taken("forfeit(1)", 775)
            .in(FORFEIT).tells(1, 7, 1)
            .in(LENT + "day(400)").tells(1, 7, 0)
            .in(LENT + "day(75) rule(0, 15)").taken("forfeit(1)", 775)
            .in(LENT + "day(75) rule(0, 16)").refused("forfeit(1)", -5)
            .in(LENT + "day(75) claim(1) day(4) drop(1) day(4)").refused("forfeit(1)", -5)
            .in(LENT + "day(75) claim(1) day(4) drop(1) day(5)").taken("forfeit(1)", 775);
    }

    private static void claimedDays() {
        says("""
            CLAIMED days are those, of claims on it since its TERM began, from the day of the claim on (not ahead of
            START + 30 TERM) up to the day on which it was dropped, that one not.""")
            .in(LENT + "day(55) claim(1) day(5)").taken("drop(1)", 0)
            .in(LENT + "day(55) claim(1) day(6)").taken("drop(1)", 1)
            .in(LENT + "day(55) claim(1) day(8)").taken("drop(1)", 3)
            .in(LENT + "day(65) claim(1)").taken("drop(1)", 0)
            .in(LENT + "day(65) claim(1) day(1)").taken("drop(1)", 1)
            .in(LENT + "day(62) claim(1) day(2) drop(1) day(3) claim(1) day(7)").tells(1, 10, 2).taken("drop(1)", 9)
            .in(LENT + "day(62) claim(1) day(2) drop(1) renew(1, 1253, 1)").tells(1, 10, 0).tells(1, 8, 151)
            .in(LENT + "day(62) claim(1) day(2) drop(1) renew(1, 1253, 1) day(60) claim(1) day(3)").tells(1, 8, 154)
            .taken("drop(1)", 3);
        says("A FORFEIT one is paid, renewed, redeemed, taken out no more.")
            .in(FORFEIT).refused("pay(1, 1253, 9)", -2).refused("renew(1, 1253, 1)", -2)
            .refused("redeem(1, 1253, 775)", -2)
            .in(LOT + "day(80) forfeit(1)").refused("out(1, 1243, 0)", -2)
            .in(LOT + "day(80)").taken("out(1, 1243, 0)", 1100);
    }

    private static void takingOut() {
        String two = "item(39, 511) item(39, 509) lend(39, 300, 1) ";
        says("""
            Taking out an item of a LOT (not the last one of those in it): the OWED may not be more than the rest's
            WORTH times the PART (as it is now), by 1,000, cut.""")
            .in(two).taken("out(1, 1100, 1)", 511).refused("out(1, 1100, 0)", -6)
            .in(two + "rule(11, 599)").taken("out(1, 1100, 1)", 511)
            .in(two + "rule(11, 598)").refused("out(1, 1100, 1)", -6)
            .in(two + "rule(11, 602)").taken("out(1, 1100, 0)", 509)
            .in(two + "day(30)").refused("out(1, 1100, 1)", -6)
            .in(two + "out(1, 1100, 1) pay(1, 1100, 305)").refused("out(1, 1100, 0)", -6).looks("place(39, 5)", 1);
    }

    private static void sales() {
        says("""
            SALE of a FORFEIT one to the highest BID (the earlier of alike ones; one at least): COSTS are the bid
            times the rule, by 1,000, cut up.""")
            .in(LENT + "day(80)").refused("bid(1, 9)", -2).refused("sale(1)", -2)
            .in(FORFEIT).refused("sale(1)", -2)
            .in(FORFEIT + "bid(1, 1000) bid(1, 1010) bid(1, 1010) bid(1, 9)").taken("sale(1)", 1010)
            .in(FORFEIT + "bid(1, 1000) bid(1, 1010) bid(1, 1010) bid(1, 9) sale(1)").sums(3, 51, 184)
            .in(FORFEIT + "bid(1, 1020) sale(1)").sums(3, 51, 194)
            .in(FORFEIT + "bid(1, 1021) sale(1)").sums(3, 52, 194);
        String kept = FORFEIT + "rule(2, 9) bid(1, 1000) sale(1) rule(2, 2000) ";
        says("""
            If bid less COSTS less OWED is above 0 that is the OVER, kept for the holder: FETCHED up to the day of the
            sale + the days kept (as they were on that day), that one too; from the next day on it is the house's.""")
            .in(FORFEIT + "bid(1, 816) sale(1)").tells(1, 12, 0, 0).refused("fetch(1, 1253)", -2)
            .in(FORFEIT + "bid(1, 817) sale(1)").tells(1, 12, 1, 0).taken("fetch(1, 1253)", 1)
            .in(kept).tells(1, 12, 175, 0).sums(4, 175, 0, 0).taken("fetch(1, 1253)", 175)
            .in(kept + "day(9)").tells(1, 13, 0).sums(4, 175, 0, 0).taken("fetch(1, 1253)", 175)
            .in(kept + "day(10)").tells(1, 13, 2).sums(4, 0, 0, 175).refused("fetch(1, 1253)", -5)
            .in(kept + "day(9) fetch(1, 1253) day(1)").tells(1, 13, 1).sums(4, 0, 175, 0);
        says("If it is below 0, what is missing is LOSS.")
            .in(FORFEIT + "bid(1, 815) sale(1)").sums(7, 1).tells(1, 12, 0)
            .in(FORFEIT + "bid(1, 816) sale(1)").sums(7, 0)
            .in(FORFEIT + "bid(1, 1) sale(1)").sums(1, 0, 0, 1, 0, 0, 0, 775);
    }

    private static void claims() {
        says("A CLAIM on an OPEN ticket stands till it is dropped or proved; one at a time.")
            .in(LENT).tells(1, 9, 0).taken("claim(1)", 0)
            .in(LENT + "claim(1) day(400)").tells(1, 9, 1).refused("claim(1)", -3)
            .in(LENT + "claim(1) drop(1)").tells(1, 9, 0).taken("claim(1)", 0)
            .in(LENT + "claim(1) prove(1)").tells(1, 9, 0).refused("claim(1)", -2)
            .in(SOLD).refused("claim(1)", -2);
        says("""
            While it stands the ticket is not forfeited, sold, redeemed, taken out of, renewed (parts may be paid;
            bids, halves, oaths go on).""")
            .in(LENT + "claim(1) day(80)").refused("forfeit(1)", -3).refused("redeem(1, 1253, 775)", -3)
            .refused("renew(1, 1253, 1)", -3).taken("pay(1, 1253, 5)", 770).taken("tear(1, 1)", 0)
            .taken("oath(1)", 0)
            .in(LOT + "claim(1)").refused("out(1, 1243, 0)", -3)
            .in(LENT + "oath(1) claim(1) day(14)").taken("pay(1, 0, 5)", 740)
            .in(FORFEIT + "claim(1)").taken("bid(1, 9)", 1)
            .in(FORFEIT + "claim(1) bid(1, 9)").refused("sale(1)", -3);
        String proved = LENT + "day(65) claim(1) day(5) prove(1) ";
        says("""
            PROVED: the pledge goes to who claimed, the OWED is LOSS (the CLAIM stands no more, its days are CLAIMED
            as if it was dropped).""")
            .in(LENT + "day(65) claim(1) day(5)").tells(1, 9, 1, 0).taken("prove(1)", 775)
            .in(proved).looks("place(39, 0)", -1).sums(7, 775).tells(1, 9, 0, 5).refused("drop(1)", -2);
    }

    private static void halves() {
        says("""
            3. HALVES. The holder's half of a ticket is told as it is lent: 1,000 times the ticket and (7 times the
            LOAN and 13 times the DAY) modulo 1,000.""")
            .in(LENT).looks("half()", 1253).tells(1, 16, 1253)
            .in(LENT + "day(6) thing(1, 900) lend(1, 111, 1)").looks("half()", 2998).tells(2, 16, 2998)
            .tells(1, 16, 1253).taken("pay(2, 2998, 1)", 113).refused("pay(2, 1998, 1)", -4);
        says("""
            The house's half (the ticket's number, the holder's half) may be torn (then only the holder's half
            tells).""")
            .in(LENT).tells(1, 15, 1, 1253).taken("tear(1, 0)", 0).taken("tear(1, 1)", 0)
            .in(LENT + "tear(1, 0)").tells(1, 15, -1, -1).looks("half()", 1253).refused("tear(1, 1)", -2)
            .in(LENT + "tear(1, 1)").tells(1, 15, 1, -1).looks("half()", 1253).refused("tear(1, 0)", -2);
        Edges right = says("""
            A half that is shown is RIGHT if it is that number; if the house's half is gone, if it is 1,000 times the
            ticket and any 0 .. 999.""");
        right.in(LENT).taken("pay(1, 1253, 5)", 740).refused("pay(1, 1252, 5)", -4).refused("pay(1, 1254, 5)", -4)
            .refused("pay(1, 253, 5)", -4).refused("pay(1, 2253, 5)", -4).refused("pay(1, 1000, 5)", -4);
        for (String torn : new String[] {"tear(1, 0)", "tear(1, 1)"}) {
            right.in(LENT + torn).refused("pay(1, 999, 5)", -4).taken("pay(1, 1000, 5)", 740)
                .taken("pay(1, 1253, 5)", 740).taken("pay(1, 1999, 5)", 740).refused("pay(1, 2000, 5)", -4)
                .refused("pay(1, 0, 5)", -4);
        }
        says("Who shows none (0) is RIGHT if an OATH was told 14 days ago at least.")
            .in(LENT + "day(14)").refused("pay(1, 0, 5)", -4)
            .in(LENT + "oath(1) day(13)").refused("pay(1, 0, 5)", -4)
            .in(LENT + "oath(1) day(14)").taken("pay(1, 0, 5)", 740).taken("redeem(1, 0, 745)", 0)
            .taken("renew(1, 0, 1)", 15)
            .in(LENT + "oath(1) day(400)").taken("pay(1, 0, 5)", 935)
            .in(LENT + "oath(1) day(14) pay(1, 0, 5)").tells(1, 17, 11).taken("pay(1, 0, 5)", 735);
        says("Whoever shows a RIGHT half ends an OATH.")
            .in(LENT + "oath(1) day(14) pay(1, 1253, 5)").tells(1, 17, -1).refused("pay(1, 0, 5)", -4)
            .in(LENT + "oath(1) tear(1, 0) day(14) renew(1, 1001, 1)").tells(1, 17, -1)
            .in(LENT + "oath(1) redeem(1, 1253, 745)").tells(1, 17, -1);
        says("A wrong one changes nothing.")
            .in(LENT + "oath(1) day(14)").refused("pay(1, 1254, 5)", -4).refused("renew(1, 1254, 1)", -4)
            .refused("redeem(1, 1254, 745)", -4)
            .in(LENT + "oath(1) day(14) pay(1, 0, 5)").refused("pay(1, 1254, 5)", -4).tells(1, 17, 11);
    }

    private static void refusedActs() {
        says("4. REFUSED acts answer why, below 0, the first that holds, and change nothing but STATUS:")
            .in(LOT + "claim(1)").refused("out(2, 9, 9)", -1).refused("out(1, 9, 9)", -1).refused("out(1, 9, 3)", -2)
            .refused("out(1, 9, 0)", -3)
            .in(LOT).refused("out(1, 9, 0)", -4)
            .in("rule(2, 1) " + SOLD + "day(2)").refused("fetch(1, 9)", -4).refused("fetch(1, 1253)", -5)
            .in(Edges.days(7300)).refused("day(401)", -5).refused("day(0)", -6);
        says("-1 there is no such PLACE, ticket, rule, item, kind;")
            .in(LOT).refused("coat(40, 0, 9)", -1).refused("lend(-1, 0, 0)", -1).refused("pay(2, 1243, 5)", -1)
            .refused("claim(0)", -1).refused("rule(14, 5)", -1).refused("rule(-1, 5)", -1)
            .refused("out(1, 1243, 6)", -1).refused("out(1, 1243, -1)", -1);
        says("""
            -2 it is not as it must be there: a PLACE not of nothing (of things that come), of no pledge, no BOX, a
            pledge under an OPEN ticket;""")
            .in(LENT + "box(1) thing(2, 9)").refused("thing(1, 0)", -2).refused("gold(2, 1, 0)", -2)
            .refused("rare(39, 1)", -2).refused("away(0)", -2).refused("away(1)", -2).refused("lend(0, 0, 0)", -2)
            .refused("lend(1, 0, 0)", -2).refused("box(2)", -2).refused("box(39)", -2).refused("away(39)", -2)
            .refused("lend(39, 0, 0)", -2)
            .in(LOT).refused("item(39, 0)", -2)
            .in(KINDS[4] + "lend(39, 9, 1)").refused("second(39, 0)", -2);
        says("a ticket that is not OPEN, FORFEIT or not, as wanted;")
            .in(LENT + "redeem(1, 1253, 745)").refused("oath(1)", -2).refused("pay(1, 9, 0)", -2)
            .refused("claim(1)", -2).refused("forfeit(1)", -2)
            .in(LENT).refused("bid(1, 0)", -2).refused("sale(1)", -2)
            .in(FORFEIT).refused("pay(1, 9, 0)", -2).refused("forfeit(1)", -2);
        says("-3 a CLAIM that stands, or none, as not wanted;")
            .in(LENT).refused("drop(1)", -3).refused("prove(1)", -3)
            .in(LENT + "claim(1)").refused("claim(1)", -3).refused("redeem(1, 9, 0)", -3)
            .refused("renew(1, 9, 0)", -3).refused("forfeit(1)", -3);
        says("-4 the half is not RIGHT;")
            .in(LENT).refused("pay(1, 9, 0)", -4).refused("renew(1, 9, 0)", -4).refused("redeem(1, 9, 0)", -4)
            .in(SOLD).refused("fetch(1, 9)", -4);
        says("-5 a day: too early, too late, above 7,300;")
            .in(LENT + "day(79)").refused("forfeit(1)", -5)
            .in(LENT + "renew(1, 1253, 1) day(1)").refused("undo(1)", -5)
            .in(Edges.days(7000)).refused("day(301)", -5).taken("day(300)", 7300)
            .in(SOLD + Edges.days(701)).refused("fetch(1, 1253)", -5);
        says("-6 a number out of its bounds;").refused("day(401)", -6).refused("rule(3, 0)", -6)
            .refused("coat(39, 9, 501)", -6)
            .in(LENT).refused("pay(1, 1253, 745)", -6).refused("tear(1, 2)", -6)
            .in(FORFEIT).refused("bid(1, 10000001)", -6);
    }

    /** It takes more calls than an object is used for, so this is no scene of an Edges. */
    private static void noMoreRoom() {
        says("-7 there is no more room (511 tickets).");
        PledgeHouse x = new PledgeHouse();
        for (int ticket = 1; ticket <= 511; ticket++) {
            x.thing(3, 100);
            DUE.is("lend() of ticket " + ticket, x.lend(3, 50, 1), ticket);
            DUE.is("redeem() of ticket " + ticket, x.redeem(ticket, 1000 * ticket + 350, 51), 0);
        }
        x.thing(3, 100);
        DUE.is("lend() of too much", x.lend(3, 61, 1), -6);
        DUE.is("lend() of ticket 512", x.lend(3, 50, 1), -7);
        DUE.is("its status()", x.status(), -7);
        DUE.is("tickets", x.sum(12), 511);
        DUE.is("lent", x.sum(0), 511 * 50);
        DUE.is("under no ticket", x.place(3, 2), 0);
    }

    private static void status() {
        says("STATUS is the answer of the latest act (of those that are not told as looking).").looks("status()", 0)
            .in(LENT).looks("status()", 1)
            .in(LENT + "pay(1, 1253, 5)").looks("status()", 740)
            .in(LENT + "day(9) place(39, 1) told(1, 1) half() sum(8) as(3, 8) check() status()")
            .looks("status()", 20);
        says("The constants: `NONE = -1`: There is none.").looks("place(0, 0)", PledgeHouse.NONE)
            .in(LENT).tells(1, 17, PledgeHouse.NONE).looks("as(12, 0)", PledgeHouse.NONE).looks("told(2, 0)", -1);
    }
}
