/** The edges of term 2, its bids, sales, overs and claims: promises 21 to 26. */
public final class SaleEdgesTest {
    private static final Due DUE = new Due("SaleEdgesTest");
    /** Ticket 1 of 500 coins, half 1500; its TERM ends on day 30; on day 50 it is FORFEIT and 520 are OWED. */
    private static final String LENT = "thing(0, 1000) lend(0, 500, 1) ";
    private static final String FORFEIT = LENT + "day(50) forfeit(1) ";

    public static void main(String[] args) {
        promise21Bid();
        promise22Sale();
        promise22HighestBid();
        costsCutUp();
        overOrLoss();
        whatIsGotGoesTo();
        promise23Fetch();
        promise23LastDay();
        promise23DaysAsTheyWere();
        promise24Claim();
        whileAClaimStands();
        promise25Drop();
        claimedDaysOfSeveral();
        firstDayOfAForfeit();
        promise26Prove();
        DUE.end();
    }

    private static Edges says(String sentence) {
        return Edges.of(DUE, sentence);
    }

    private static void promise21Bid() {
        Edges at = says("A bid for a FORFEIT one: how many there were. -1, -2, -6 (not 1 .. 10,000,000)").in(FORFEIT);
        at.refused("bid(1, 0)", -6).refused("bid(1, -1)", -6).refused("bid(1, min)", -6);
        at.taken("bid(1, 1)", 1).taken("bid(1, 10000000)", 1);
        at.refused("bid(1, 10000001)", -6).refused("bid(1, max)", -6);
        at.in(FORFEIT + "bid(1, 5)").taken("bid(1, 5)", 2).taken("bid(1, 1)", 2).refused("bid(1, 0)", -6);
        at.in(FORFEIT + "bid(1, 5) bid(1, 4)").taken("bid(1, 3)", 3);
        at.in(LENT + "day(50)").refused("bid(1, 5)", -2).refused("bid(1, 0)", -2).in(LENT).refused("bid(1, 5)", -2);
        at.in(FORFEIT + "bid(1, 5) sale(1)").refused("bid(1, 5)", -2).refused("bid(1, 0)", -2);
        at.in(FORFEIT + "claim(1)").taken("bid(1, 5)", 1).in(FORFEIT + "claim(1) prove(1)").refused("bid(1, 5)", -2);
    }

    private static void promise22Sale() {
        Edges at = says("It is SOLD: the highest bid. -1, -2 (also: no bid), -3");
        at.in(LENT).refused("sale(1)", -2).in(LENT + "day(50)").refused("sale(1)", -2);
        at.in(FORFEIT).refused("sale(1)", -2).in(FORFEIT + "bid(1, 1)").taken("sale(1)", 1);
        at.in(FORFEIT + "claim(1)").refused("sale(1)", -2).in(FORFEIT + "claim(1) bid(1, 5)").refused("sale(1)", -3);
        at.in(FORFEIT + "bid(1, 5) claim(1)").refused("sale(1)", -3);
        at.in(FORFEIT + "bid(1, 5) claim(1) drop(1)").taken("sale(1)", 5);
        at.in(FORFEIT + "bid(1, 5) sale(1)").refused("sale(1)", -2).tells(1, 0, 2).looks("place(0, 0)", -1)
            .sums(10, 0, 0, 1).taken("thing(0, 5)", 0);
        at.in(FORFEIT + "image() bid(1, 5) back()").refused("sale(1)", -2);
    }

    private static void promise22HighestBid() {
        Edges at = says("to the highest BID (the earlier of alike ones; one at least)");
        at.in(FORFEIT).tells(1, 11, 0);
        at.in(FORFEIT + "bid(1, 600)").tells(1, 11, 600).taken("sale(1)", 600);
        at.in(FORFEIT + "bid(1, 600) bid(1, 599)").tells(1, 11, 600).taken("sale(1)", 600);
        at.in(FORFEIT + "bid(1, 600) bid(1, 600)").tells(1, 11, 600).taken("sale(1)", 600);
        at.in(FORFEIT + "bid(1, 600) bid(1, 601)").tells(1, 11, 601).taken("sale(1)", 601);
        at.in(FORFEIT + "bid(1, 600) bid(1, 1) sale(1)").tells(1, 11, 600);
    }

    private static void costsCutUp() {
        Edges at = says("COSTS are the bid times the rule, by 1,000, cut up");
        int[][] rows = {{50, 1, 1}, {50, 19, 1}, {50, 20, 1}, {50, 21, 2}, {50, 1000, 50}, {50, 1001, 51}, {0, 1000, 0},
            {1, 999, 1}, {1, 1000, 1}, {1, 1001, 2}, {500, 1, 1}, {500, 2, 1}, {500, 3, 2}, {500, 10000000, 5000000},
            {499, 10000000, 4990000}};
        for (int[] row : rows) {
            at.in(FORFEIT + "rule(1, " + row[0] + ") bid(1, " + row[1] + ") sale(1)").sums(3, row[2]);
        }
        at.in(FORFEIT + "bid(1, 1000) rule(1, 100) sale(1) rule(1, 500)").sums(3, 100);
    }

    private static void overOrLoss() {
        Edges at = says(
            "If bid less COSTS less OWED is above 0 that is the OVER; if it is below 0, what is missing is LOSS");
        at.in(FORFEIT + "bid(1, 547) sale(1)").tells(1, 12, 0, 0).sums(1, 20, 499, 28, 0, 0, 0, 1);
        at.in(FORFEIT + "bid(1, 548) sale(1)").tells(1, 12, 0, 0).sums(1, 20, 500, 28, 0, 0, 0, 0)
            .refused("fetch(1, 1500)", -2);
        at.in(FORFEIT + "bid(1, 549) sale(1)").tells(1, 12, 1, 0).sums(1, 20, 500, 28, 1, 0, 0, 0)
            .taken("fetch(1, 1500)", 1);
        at.in(FORFEIT + "rule(1, 0) bid(1, 10000000) sale(1)").tells(1, 12, 9999480, 0);
        at.in(FORFEIT + "bid(1, 549) day(9) sale(1)").tells(1, 12, 1);
        at.in(FORFEIT + "bid(1, 549) day(10) sale(1)").tells(1, 12, 0).sums(7, 9);
        says("none is kept, none is the house's").in(FORFEIT + "bid(1, 548) sale(1) " + Edges.days(701))
            .tells(1, 12, 0, 0).sums(4, 0, 0, 0);
    }

    private static void whatIsGotGoesTo() {
        Edges at = says("by a sale what is got goes to COSTS first, then INTEREST, then PRINCIPAL");
        int[][] rows = {{1, 1, 0, 519}, {19, 19, 0, 501}, {20, 20, 0, 500}, {21, 20, 1, 499}, {519, 20, 499, 1},
            {520, 20, 500, 0}, {521, 20, 500, 0}};
        for (int[] row : rows) {
            at.in(FORFEIT + "rule(1, 0) bid(1, " + row[0] + ") sale(1)")
                .sums(1, row[1], row[2], 0).sums(7, row[3], 0, 0).looks("check()", 0);
        }
        at.in(FORFEIT + "rule(1, 500) bid(1, 1) sale(1)").sums(1, 0, 0, 1).sums(7, 520).looks("check()", 0);
        at.in(FORFEIT + "rule(1, 500) bid(1, 2) sale(1)").sums(1, 1, 0, 1).sums(7, 519).looks("check()", 0);
    }

    private static void promise23Fetch() {
        Edges at = says("The OVER of a SOLD ticket is fetched: its coins. -1, -2 (none, or fetched), -4, -5");
        String sold = FORFEIT + "bid(1, 700) sale(1) ";
        at.in(LENT).refused("fetch(1, 1500)", -2).refused("fetch(1, 5)", -2);
        at.in(FORFEIT + "bid(1, 700)").refused("fetch(1, 1500)", -2);
        at.in(sold).taken("fetch(1, 1500)", 145).refused("fetch(1, 1501)", -4).refused("fetch(1, 0)", -4);
        at.in(sold).tells(1, 12, 145, 0).sums(4, 145, 0, 0);
        at.in(sold + "fetch(1, 1500)").refused("fetch(1, 1500)", -2).refused("fetch(1, 5)", -2)
            .tells(1, 12, 145, 1).sums(4, 0, 145, 0);
        at.in(sold + "fetch(1, 1500) " + Edges.days(701)).refused("fetch(1, 1500)", -2).tells(1, 12, 145, 1)
            .sums(4, 0, 145, 0);
        at.in(FORFEIT + "bid(1, 548) sale(1)").refused("fetch(1, 5)", -2);
        at.in(FORFEIT + "bid(1, 548) sale(1) " + Edges.days(701)).refused("fetch(1, 1500)", -2);
        at.in(sold + "image() fetch(1, 1500) back()").taken("fetch(1, 1500)", 145);
        says("The house's half of a ticket is torn: it leaves the coins of a SOLD one")
            .in(sold + "day(1) tear(1, 0)").sums(1, 20, 500, 35, 145, 0, 0, 0)
            .in(sold + "fetch(1, 1500) day(1) tear(1, 0)").sums(1, 20, 500, 35, 0, 145, 0, 0)
            .refused("fetch(1, 1500)", -2)
            .in(FORFEIT + "rule(1, 0) bid(1, 19) sale(1) day(1) tear(1, 1)").sums(1, 19, 0, 0, 0, 0, 0, 501);
    }

    private static void promise23LastDay() {
        Edges at = says(
            "FETCHED up to the day of the sale + the days kept, that one too; from the next day on it is the house's");
        String sold = FORFEIT + "rule(2, 5) bid(1, 700) day(4) sale(1) ";
        at.in(sold + "day(4)").taken("fetch(1, 1500)", 145).tells(1, 13, 0);
        at.in(sold + "day(5)").taken("fetch(1, 1500)", 145).tells(1, 12, 145, 0).sums(4, 145, 0, 0)
            .refused("fetch(1, 1501)", -4);
        at.in(sold + "day(6)").refused("fetch(1, 1500)", -5).tells(1, 12, 145, 2).sums(4, 0, 0, 145)
            .refused("fetch(1, 1501)", -4);
        at.in(sold + "day(5) fetch(1, 1500) day(1)").tells(1, 12, 145, 1).sums(4, 0, 145, 0);
        at.in(sold + "day(6)").looks("as(59, 4)", 145).looks("as(59, 6)", 0).looks("as(60, 4)", 0)
            .looks("as(60, 6)", 145)
            .looks("as(53, 4)", 0).looks("as(54, 4)", 145);
        String least = FORFEIT + "rule(2, 5) bid(1, 549) sale(1) ";
        at.in(least + "day(5)").tells(1, 12, 1, 0).sums(4, 1, 0, 0).in(least + "day(6)").tells(1, 12, 1, 2)
            .sums(4, 0, 0, 1);
        String last = "rule(2, 2000) " + Edges.days(7250) + FORFEIT + "bid(1, 700) sale(1) ";
        at.in(last).taken("fetch(1, h1)", 145).tells(1, 13, 0);
    }

    private static void promise23DaysAsTheyWere() {
        Edges at = says("the days kept (as they were on that day)");
        at.in(FORFEIT + "rule(2, 5) bid(1, 700) sale(1) rule(2, 2000) day(5)").taken("fetch(1, 1500)", 145);
        at.in(FORFEIT + "rule(2, 5) bid(1, 700) sale(1) rule(2, 2000) day(6)").refused("fetch(1, 1500)", -5)
            .tells(1, 13, 2);
        at.in(FORFEIT + "rule(2, 5) bid(1, 700) sale(1) rule(2, 1) day(5)").taken("fetch(1, 1500)", 145)
            .tells(1, 13, 0);
        at.in(FORFEIT + "rule(2, 5) bid(1, 700) day(3) rule(2, 1) sale(1) day(2)").refused("fetch(1, 1500)", -5);
    }

    private static void promise24Claim() {
        Edges at = says("A CLAIM on an OPEN ticket stands till it is dropped or proved; one at a time: 0. -1, -2, -3");
        at.in(LENT).tells(1, 9, 0).taken("claim(1)", 0).in(LENT + "claim(1)").tells(1, 9, 1).refused("claim(1)", -3);
        at.in(LENT + "claim(1) day(400)").refused("claim(1)", -3);
        at.in(LENT + "claim(1) drop(1)").tells(1, 9, 0).taken("claim(1)", 0);
        at.in(LENT + "claim(1) prove(1)").tells(1, 9, 0).refused("claim(1)", -2);
        at.in(FORFEIT).taken("claim(1)", 0).in(FORFEIT + "claim(1)").refused("claim(1)", -3);
        at.in(LENT + "redeem(1, 1500, 510)").refused("claim(1)", -2).in(FORFEIT + "bid(1, 5) sale(1)")
            .refused("claim(1)", -2);
        at.in(LENT + "claim(1) thing(1, 10) lend(1, 5, 1)").taken("claim(2)", 0).taken("redeem(2, 2035, 6)", 0);
    }

    private static void whileAClaimStands() {
        Edges at = says("While it stands the ticket is not forfeited, sold, redeemed, taken out of, renewed");
        at.in(LENT + "claim(1) day(300)").refused("forfeit(1)", -3).refused("redeem(1, 1500, 610)", -3)
            .refused("renew(1, 1500, 1)", -3);
        at.in(FORFEIT + "bid(1, 700) claim(1)").refused("sale(1)", -3);
        at.in("item(0, 500) item(0, 500) lend(0, 100, 1) claim(1)").refused("out(1, 1700, 0)", -3);
        says("(parts may be paid; bids, halves, oaths go on)").in(LENT + "claim(1)").taken("pay(1, 1500, 5)", 505)
            .taken("tear(1, 0)", 0).taken("oath(1)", 0).in(FORFEIT + "claim(1)").taken("bid(1, 5)", 1)
            .taken("tear(1, 1)", 0).taken("oath(1)", 0).in(LENT + "oath(1) claim(1) day(14)")
            .taken("pay(1, 0, 5)", 505);
    }

    private static void promise25Drop() {
        Edges at = says(
            "from the day of the claim on (not ahead of START + 30 TERM) up to the day on which it was dropped, "
            + "that one not");
        at.in(LENT).refused("drop(1)", -3).in(LENT + "claim(1) drop(1)").refused("drop(1)", -3);
        at.in(LENT + "claim(1)").taken("drop(1)", 0);
        int[][] rows = {{0, 29, 0}, {0, 30, 0}, {0, 31, 1}, {29, 29, 0}, {29, 30, 0}, {29, 31, 1}, {30, 30, 0},
            {30, 31, 1}, {31, 31, 0}, {31, 32, 1}, {31, 41, 10}, {0, 400, 370}, {50, 450, 400}};
        for (int[] row : rows) {
            String claimed = LENT + Edges.days(row[0]) + "claim(1) " + Edges.days(row[1] - row[0]);
            at.in(claimed).tells(1, 8, 50 + row[2], 1, 0).taken("drop(1)", row[2]);
            at.in(claimed + "drop(1)").tells(1, 8, 50 + row[2], 0, row[2]);
            at.in(claimed + "drop(1) day(9)").tells(1, 8, 50 + row[2], 0, row[2]);
        }
        at.in(LENT + "redeem(1, 1500, 510)").refused("drop(1)", -2).in(LENT + "claim(1) prove(1)")
            .refused("drop(1)", -2);
        at.in(FORFEIT + "claim(1) day(3)").taken("drop(1)", 3).in(FORFEIT).refused("drop(1)", -3);
    }

    private static void claimedDaysOfSeveral() {
        Edges at = says("CLAIMED days are those, of claims on it since its TERM began; CLAIMED days so far");
        String one = LENT + "day(31) claim(1) day(2) drop(1) ";
        at.in(one + "claim(1)").tells(1, 8, 52, 1, 2).taken("drop(1)", 2);
        at.in(one + "day(1) claim(1) day(3)").tells(1, 8, 55, 1, 2).taken("drop(1)", 5);
        at.in(one + "day(1) claim(1) day(3) drop(1)").tells(1, 8, 55, 0, 5);
        at.in(one + "renew(1, 1500, 1)").tells(1, 8, 110, 0, 0);
        at.in(one + "renew(1, 1500, 1) claim(1) day(57)").tells(1, 8, 110, 1, 0).taken("drop(1)", 0);
        at.in(one + "renew(1, 1500, 1) claim(1) day(58)").tells(1, 8, 111, 1, 0).taken("drop(1)", 1);
        at.in(one + "day(18)").refused("forfeit(1)", -5).in(one + "day(19)").taken("forfeit(1)", 520);
    }

    private static void firstDayOfAForfeit() {
        Edges at = says("8 the first day on which it may be (a CLAIM that stands being dropped today)");
        at.in(LENT + "day(40) claim(1) day(30)").tells(1, 8, 80);
        at.in(LENT + "day(40) claim(1) day(30) drop(1) day(9)").refused("forfeit(1)", -5);
        at.in(LENT + "day(40) claim(1) day(30) drop(1) day(10)").taken("forfeit(1)", 530);
        at.in(LENT + "day(60) claim(1)").tells(1, 8, 50).in(LENT + "day(60) claim(1) drop(1)").taken("forfeit(1)", 530);
        at.in(LENT + "day(60) claim(1) day(40)").tells(1, 8, 90);
        at.in(LENT + "day(60) claim(1) day(40) drop(1)").taken("forfeit(1)", 540);
        at.in(LENT + "day(10) claim(1) day(10) rule(0, 0)").tells(1, 8, 30);
        says("of a closed one it stays").in(LENT + "day(31) claim(1) day(5) prove(1) day(50)").tells(1, 8, 55, 0, 5);
    }

    private static void promise26Prove() {
        Edges at = says("It is PROVED: what is LOSS by it. -1, -2, -3 (none stands)");
        at.in(LENT).refused("prove(1)", -3).in(LENT + "claim(1) drop(1)").refused("prove(1)", -3);
        at.in(FORFEIT).refused("prove(1)", -3);
        at.in(LENT + "claim(1)").taken("prove(1)", 510).in(LENT + "claim(1) day(29)").taken("prove(1)", 510);
        at.in(LENT + "claim(1) day(30)").taken("prove(1)", 520);
        at.in(FORFEIT + "claim(1) bid(1, 700)").taken("prove(1)", 520);
        at.in(LENT + "claim(1) pay(1, 1500, 509)").taken("prove(1)", 1);
        at.in(LENT + "renew(1, 1500, 1) claim(1) day(29)").taken("prove(1)", 500);
        at.in(LENT + "redeem(1, 1500, 510)").refused("prove(1)", -2).in(LENT + "claim(1) prove(1)")
            .refused("prove(1)", -2);
        at.in(FORFEIT + "bid(1, 5) sale(1)").refused("prove(1)", -2);
        Edges done = says(
            "PROVED: the pledge goes to who claimed, the OWED is LOSS (.. its days are CLAIMED as if it was dropped)");
        done.in(LENT + "claim(1) day(30) prove(1)").tells(1, 0, 3, 500, 20, 2).tells(1, 8, 50, 0, 0)
            .looks("place(0, 0)", -1).sums(1, 0, 0, 0, 0, 0, 0, 520, 0, 0, 0, 0, 1).taken("thing(0, 5)", 0);
        done.in(LENT + "claim(1) day(31) prove(1)").tells(1, 8, 51, 0, 1);
        done.in(LENT + "day(35) claim(1) day(5) prove(1)").tells(1, 8, 55, 0, 5);
        done.in(LENT + "claim(1) pay(1, 1500, 15) prove(1)").sums(1, 10, 5).sums(7, 495).looks("check()", 0);
    }
}
