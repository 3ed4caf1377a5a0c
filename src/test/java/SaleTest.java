/** Promises 20 to 26: forfeits, bids, sales, overs, claims. */
public final class SaleTest {
    private static final Due DUE = new Due("SaleTest");

    public static void main(String[] args) {
        bidding();
        selling();
        sellingWithLoss();
        sellingForLessThanInterest();
        costsCutUp();
        fetching();
        keptAsItWas();
        claiming();
        claimedDays();
        claimedDaysOfSeveral();
        proving();
        tearingClosedOnes();
        DUE.end();
    }

    /** A ticket of 1000 coins, forfeit on day 50: 40 coins of interest. */
    private static PledgeHouse forfeited() {
        PledgeHouse x = new PledgeHouse();
        x.thing(0, 10000);
        x.lend(0, 1000, 1);
        x.day(50);
        x.forfeit(1);
        return x;
    }

    private static void bidding() {
        PledgeHouse x = new PledgeHouse();
        x.thing(0, 10000);
        x.lend(0, 1000, 1);
        DUE.is("bid(0)", x.bid(0, 0), -1);
        DUE.is("not forfeit", x.bid(1, 0), -2);
        DUE.is("sale, not forfeit", x.sale(1), -2);
        x.day(50);
        x.forfeit(1);
        DUE.is("0 coins", x.bid(1, 0), -6);
        DUE.is("too many", x.bid(1, 10000001), -6);
        DUE.is("no bid", x.told(1, 11), 0);
        DUE.is("one", x.bid(1, 500), 1);
        DUE.is("a higher one", x.bid(1, 10000000), 2);
        DUE.is("a lower one", x.bid(1, 1), 3);
        DUE.is("highest", x.told(1, 11), 10000000);
        DUE.is("sale", x.sale(1), 10000000);
        DUE.is("highest, still", x.told(1, 11), 10000000);
        DUE.is("closed", x.bid(1, 5), -2);
    }

    private static void selling() {
        PledgeHouse x = forfeited();
        DUE.is("sale(0)", x.sale(0), -1);
        DUE.is("sale(2)", x.sale(2), -1);
        DUE.is("no bid", x.sale(1), -2);
        x.claim(1);
        DUE.is("no bid, and a claim", x.sale(1), -2);
        x.bid(1, 1300);
        DUE.is("claim", x.sale(1), -3);
        x.drop(1);
        x.day(10);
        DUE.is("sold", x.sale(1), 1300);
        DUE.is("a second time", x.sale(1), -2);
        DUE.is("stands", x.told(1, 0), 2);
        DUE.is("principal last", x.told(1, 1), 1000);
        DUE.is("interest last, months went on", x.told(1, 2), 60);
        DUE.is("months last", x.told(1, 3), 3);
        DUE.is("over", x.told(1, 12), 1300 - 65 - 1060);
        DUE.is("not fetched", x.told(1, 13), 0);
        DUE.is("costs", x.sum(3), 65);
        DUE.is("interest got", x.sum(1), 60);
        DUE.is("principal got", x.sum(2), 1000);
        DUE.is("kept", x.sum(4), 175);
        DUE.is("loss", x.sum(7), 0);
        DUE.is("open", x.sum(10), 0);
        DUE.is("pledges", x.sum(11), 0);
        DUE.is("place", x.place(0, 0), -1);
        x.day(100);
        DUE.is("interest grows no more", x.told(1, 2), 60);
        DUE.is("check", x.check(), 0);
    }

    private static void sellingWithLoss() {
        PledgeHouse x = forfeited();
        x.bid(1, 500);
        x.sale(1);
        DUE.is("costs", x.sum(3), 25);
        DUE.is("interest got", x.sum(1), 40);
        DUE.is("principal got", x.sum(2), 435);
        DUE.is("loss", x.sum(7), 565);
        DUE.is("over", x.told(1, 12), 0);
        DUE.is("fetch of none", x.fetch(1, 1000), -2);
        DUE.is("check", x.check(), 0);
        PledgeHouse y = forfeited();
        y.rule(1, 0);
        y.bid(1, 1040);
        y.sale(1);
        DUE.is("just what is owed: no over", y.told(1, 12), 0);
        DUE.is("no loss", y.sum(7), 0);
        y.day(400);
        y.day(400);
        DUE.is("none is the house's", y.told(1, 13), 0);
        DUE.is("none is kept", y.sum(4), 0);
        DUE.is("none is the house's coins", y.sum(6), 0);
    }

    private static void sellingForLessThanInterest() {
        PledgeHouse x = forfeited();
        x.bid(1, 20);
        x.sale(1);
        DUE.is("interest got", x.sum(1), 19);
        DUE.is("principal got", x.sum(2), 0);
        DUE.is("loss", x.sum(7), 1021);
        DUE.is("check", x.check(), 0);
        PledgeHouse y = forfeited();
        y.rule(1, 500);
        y.bid(1, 1);
        y.sale(1);
        DUE.is("costs take the coin", y.sum(3), 1);
        DUE.is("nothing for interest", y.sum(1), 0);
        DUE.is("loss of all", y.sum(7), 1040);
    }

    private static void costsCutUp() {
        PledgeHouse x = forfeited();
        x.bid(1, 1101);
        x.sale(1);
        DUE.is("55.05 is cut up", x.sum(3), 56);
        DUE.is("over", x.told(1, 12), 5);
        PledgeHouse y = forfeited();
        y.bid(1, 10000000);
        y.rule(1, 499);
        y.sale(1);
        DUE.is("costs of the most", y.sum(3), 4990000);
        DUE.is("over of the most", y.sum(4), 10000000 - 4990000 - 1040);
    }

    private static void fetching() {
        PledgeHouse x = forfeited();
        DUE.is("fetch(2)", x.fetch(2, 0), -1);
        DUE.is("not sold", x.fetch(1, 1000), -2);
        x.bid(1, 2000);
        x.sale(1);
        DUE.is("half", x.fetch(1, 1001), -4);
        x.day(400);
        x.day(300);
        DUE.is("kept on its last day", x.sum(4), 860);
        x.image();
        DUE.is("fetched on it", x.fetch(1, 1000), 860);
        DUE.is("fetched", x.told(1, 13), 1);
        DUE.is("over is told", x.told(1, 12), 860);
        DUE.is("again", x.fetch(1, 1001), -2);
        DUE.is("kept", x.sum(4), 0);
        DUE.is("fetched coins", x.sum(5), 860);
        x.day(5);
        DUE.is("stays fetched", x.told(1, 13), 1);
        DUE.is("house's", x.sum(6), 0);
        x.back();
        x.day(1);
        DUE.is("a day late, half", x.fetch(1, 1001), -4);
        DUE.is("a day late", x.fetch(1, 1000), -5);
        DUE.is("the house's", x.told(1, 13), 2);
        DUE.is("house's coins", x.sum(6), 860);
        DUE.is("kept no more", x.sum(4), 0);
        DUE.is("over is told", x.told(1, 12), 860);
    }

    private static void keptAsItWas() {
        PledgeHouse x = forfeited();
        x.rule(2, 5);
        x.bid(1, 2000);
        x.sale(1);
        x.rule(2, 2000);
        x.day(6);
        DUE.is("the days as they were then", x.fetch(1, 1000), -5);
        PledgeHouse y = forfeited();
        y.bid(1, 2000);
        y.sale(1);
        y.rule(2, 1);
        y.day(6);
        DUE.is("not as they are now", y.fetch(1, 1000), 860);
    }

    private static void claiming() {
        PledgeHouse x = new PledgeHouse();
        x.thing(0, 10000);
        x.lend(0, 1000, 1);
        DUE.is("claim(0)", x.claim(0), -1);
        DUE.is("drop(0)", x.drop(0), -1);
        DUE.is("prove(0)", x.prove(0), -1);
        DUE.is("drop of none", x.drop(1), -3);
        DUE.is("prove of none", x.prove(1), -3);
        DUE.is("claim", x.claim(1), 0);
        DUE.is("stands", x.told(1, 9), 1);
        DUE.is("one at a time", x.claim(1), -3);
        DUE.is("parts may be paid", x.pay(1, 1000, 20), 1000);
        DUE.is("halves go on", x.tear(1, 0), 0);
        DUE.is("oaths go on", x.oath(1), 0);
        DUE.is("not redeemed", x.redeem(1, 1000, 1000), -3);
        DUE.is("not renewed", x.renew(1, 1000, 1), -3);
        DUE.is("dropped", x.drop(1), 0);
        DUE.is("stands no more", x.told(1, 9), 0);
        x.redeem(1, 1000, 1000);
        DUE.is("claim on a closed one", x.claim(1), -2);
        DUE.is("drop on a closed one", x.drop(1), -2);
        DUE.is("prove on a closed one", x.prove(1), -2);
        PledgeHouse y = forfeited();
        DUE.is("claim on a forfeit one", y.claim(1), 0);
        DUE.is("bids go on", y.bid(1, 5), 1);
    }

    private static void claimedDays() {
        PledgeHouse x = new PledgeHouse();
        x.thing(0, 10000);
        x.lend(0, 1000, 1);
        x.day(10);
        x.claim(1);
        DUE.is("first day ahead of the end", x.told(1, 8), 50);
        x.day(20);
        DUE.is("first day on the end", x.told(1, 8), 50);
        x.day(7);
        DUE.is("first day if dropped today", x.told(1, 8), 57);
        DUE.is("of those dropped", x.told(1, 10), 0);
        DUE.is("drop", x.drop(1), 7);
        DUE.is("of those dropped", x.told(1, 10), 7);
        x.day(19);
        DUE.is("too early", x.forfeit(1), -5);
        x.day(1);
        DUE.is("forfeit", x.forfeit(1), 1040);
    }

    private static void claimedDaysOfSeveral() {
        PledgeHouse x = new PledgeHouse();
        x.thing(0, 10000);
        x.lend(0, 1000, 1);
        x.claim(1);
        x.day(29);
        DUE.is("ahead of the end", x.drop(1), 0);
        x.day(6);
        x.claim(1);
        DUE.is("on one day", x.drop(1), 0);
        x.claim(1);
        x.day(3);
        DUE.is("three days", x.drop(1), 3);
        x.day(2);
        x.claim(1);
        x.day(4);
        DUE.is("first day with both", x.told(1, 8), 57);
        DUE.is("seven together", x.drop(1), 7);
        x.renew(1, 1000, 2);
        DUE.is("a new term has none", x.told(1, 10), 0);
        DUE.is("first day of the new term", x.told(1, 8), 60 + 60 + 20);
        x.claim(1);
        x.day(100);
        DUE.is("from the new end on", x.drop(1), 44 + 100 - 120);
    }

    private static void proving() {
        PledgeHouse x = new PledgeHouse();
        x.thing(0, 10000);
        x.lend(0, 1000, 1);
        x.day(35);
        x.claim(1);
        x.day(5);
        DUE.is("prove", x.prove(1), 1040);
        DUE.is("stands", x.told(1, 0), 3);
        DUE.is("the claim stands no more", x.told(1, 9), 0);
        DUE.is("its days are claimed", x.told(1, 10), 5);
        DUE.is("first day", x.told(1, 8), 55);
        DUE.is("principal last", x.told(1, 1), 1000);
        DUE.is("interest last", x.told(1, 2), 40);
        DUE.is("loss", x.sum(7), 1040);
        DUE.is("got nothing", x.sum(1) + x.sum(2), 0);
        DUE.is("open", x.sum(8) + x.sum(9) + x.sum(10), 0);
        DUE.is("pledge is gone", x.place(0, 0), -1);
        DUE.is("pledges", x.sum(11), 0);
        DUE.is("prove again", x.prove(1), -2);
        DUE.is("check", x.check(), 0);
        x.day(100);
        DUE.is("first day stays", x.told(1, 8), 55);
    }

    /** Tearing is the one act that a closed ticket bears beside fetching: it leaves all coins as they are. */
    private static void tearingClosedOnes() {
        PledgeHouse x = forfeited();
        x.rule(2, 5);
        x.bid(1, 2000);
        x.sale(1);
        x.day(3);
        DUE.is("tear a sold one", x.tear(1, 0), 0);
        DUE.is("over", x.told(1, 12), 860);
        DUE.is("costs", x.sum(3), 100);
        x.day(2);
        x.image();
        DUE.is("fetch with any half", x.fetch(1, 1999), 860);
        x.back();
        x.day(1);
        DUE.is("kept as long as it was", x.fetch(1, 1999), -5);
        PledgeHouse y = forfeited();
        y.bid(1, 2000);
        y.sale(1);
        y.fetch(1, 1000);
        y.tear(1, 1);
        DUE.is("fetched stays fetched", y.fetch(1, 1000), -2);
        DUE.is("fetched coins", y.sum(5), 860);
        PledgeHouse z = forfeited();
        z.claim(1);
        z.prove(1);
        z.tear(1, 0);
        DUE.is("loss stays", z.sum(7), 1040);
        DUE.is("check", z.check(), 0);
    }
}
