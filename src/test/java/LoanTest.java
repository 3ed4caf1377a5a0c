/** Promises 12 and 15 to 20: lending, interest, paying, renewing, undoing, redeeming, taking out, forfeits. */
public final class LoanTest {
    private static final Due DUE = new Due("LoanTest");

    public static void main(String[] args) {
        lending();
        interestByMonthsBegun();
        paying();
        renewing();
        renewingAheadOfStart();
        undoing();
        whatEndsUndoing();
        redeeming();
        takingOut();
        forfeiting();
        theMostInterest();
        DUE.end();
    }

    private static PledgeHouse lent(int amount, int months) {
        PledgeHouse x = new PledgeHouse();
        x.thing(0, 10000);
        x.lend(0, amount, months);
        return x;
    }

    private static void lending() {
        PledgeHouse x = new PledgeHouse();
        DUE.is("lend(-1)", x.lend(-1, 0, 0), -1);
        DUE.is("lend(40)", x.lend(40, 0, 0), -1);
        DUE.is("lend on nothing", x.lend(0, 0, 0), -2);
        x.thing(0, 999);
        DUE.is("months 0", x.lend(0, 10, 0), -6);
        DUE.is("months 13", x.lend(0, 10, 13), -6);
        DUE.is("amount 0", x.lend(0, 0, 1), -6);
        DUE.is("amount below 0", x.lend(0, -5, 1), -6);
        DUE.is("599.4 is cut", x.lend(0, 600, 12), -6);
        DUE.is("no ticket yet", x.sum(12), 0);
        x.day(3);
        DUE.is("lend", x.lend(0, 599, 12), 1);
        DUE.is("half", x.half(), 1000 + (7 * 599 + 13 * 3) % 1000);
        DUE.is("lend under a ticket", x.lend(0, 0, 0), -2);
        int[] told = {0, 599, 12, 1, 3, 12, 20, 0, 3 + 360 + 20, 0, 0, 0, 0, 0, 0, 1, 1232, -1};
        for (int what = 0; what < told.length; what++) {
            DUE.is("told(1, " + what + ")", x.told(1, what), told[what]);
        }
        DUE.is("told(1, -1)", x.told(1, -1), -1);
        DUE.is("told(1, 18)", x.told(1, 18), -1);
        DUE.is("told(2, 0)", x.told(2, 0), -1);
        DUE.is("told(0, 0)", x.told(0, 0), -1);
        DUE.is("told(-1, 0)", x.told(-1, 0), -1);
        DUE.is("told(most int, 0)", x.told(Integer.MAX_VALUE, 0), -1);
        x.coat(7, 100, 0);
        DUE.is("the next ticket", x.lend(7, 1, 1), 2);
        DUE.is("its place", x.told(2, 14), 7);
    }

    private static void interestByMonthsBegun() {
        PledgeHouse x = lent(1001, 1);
        DUE.is("20.02 is cut up", x.told(1, 2), 21);
        x.day(29);
        DUE.is("day 29", x.told(1, 2), 21);
        x.day(1);
        DUE.is("day 30", x.told(1, 2), 42);
        DUE.is("two months", x.told(1, 3), 2);
        x.rule(4, 200);
        x.day(61);
        DUE.is("behind the term, by its own rate", x.told(1, 2), 84);
        DUE.is("four months", x.told(1, 3), 4);
        DUE.is("its rate", x.told(1, 6), 20);
        x.rule(4, 0);
        x.thing(1, 100);
        x.lend(1, 60, 2);
        DUE.is("rate 0", x.told(2, 2), 0);
        x.day(30);
        DUE.is("rate 0, later", x.told(2, 2), 0);
        DUE.is("months begin all the same", x.told(2, 3), 2);
    }

    private static void paying() {
        PledgeHouse x = lent(1000, 3);
        int half = x.half();
        DUE.is("half", half, 1000);
        DUE.is("pay(0)", x.pay(0, 0, 0), -1);
        DUE.is("pay(2)", x.pay(2, 0, 0), -1);
        DUE.is("wrong half", x.pay(1, 1001, 0), -4);
        DUE.is("0 coins", x.pay(1, half, 0), -6);
        DUE.is("all that is owed", x.pay(1, half, 1020), -6);
        DUE.is("below 0", x.pay(1, half, -1), -6);
        DUE.is("a part of the interest", x.pay(1, half, 5), 1015);
        DUE.is("interest left", x.told(1, 2), 15);
        DUE.is("principal as it was", x.told(1, 1), 1000);
        DUE.is("got as interest", x.sum(1), 5);
        DUE.is("got of principal", x.sum(2), 0);
        DUE.is("interest and principal", x.pay(1, half, 515), 500);
        DUE.is("principal", x.told(1, 1), 500);
        DUE.is("interest", x.told(1, 2), 0);
        x.day(30);
        DUE.is("grows by the principal that is left", x.told(1, 2), 10);
        DUE.is("all but one", x.pay(1, half, 509), 1);
        DUE.is("then no part is left", x.pay(1, half, 1), -6);
        DUE.is("open principal", x.sum(8), 1);
        DUE.is("check", x.check(), 0);
        x.redeem(1, half, 1);
        DUE.is("paying what is closed", x.pay(1, half, 1), -2);
    }

    private static void renewing() {
        PledgeHouse x = lent(1000, 3);
        x.day(45);
        DUE.is("renew(2)", x.renew(2, 0, 0), -1);
        DUE.is("wrong half", x.renew(1, 999, 0), -4);
        DUE.is("months 0", x.renew(1, 1000, 0), -6);
        DUE.is("months 13", x.renew(1, 1000, 13), -6);
        x.rule(4, 50);
        DUE.is("interest paid", x.renew(1, 1000, 12), 40);
        DUE.is("got as interest", x.sum(1), 40);
        int[] told = {0, 1000, 0, 0, 60, 12, 50, 0, 60 + 360 + 20};
        for (int what = 0; what < told.length; what++) {
            DUE.is("renewed told(1, " + what + ")", x.told(1, what), told[what]);
        }
        x.day(14);
        DUE.is("no month has begun", x.told(1, 3), 0);
        x.day(1);
        DUE.is("one has", x.told(1, 3), 1);
        DUE.is("by the new rate", x.told(1, 2), 50);
        x.claim(1);
        DUE.is("a claim stands", x.renew(1, 999, 0), -3);
        x.drop(1);
        DUE.is("again", x.renew(1, 1000, 1), 50);
        DUE.is("start", x.told(1, 4), 90);
        x.redeem(1, 1000, 1000);
        DUE.is("renewing what is closed", x.renew(1, 1000, 1), -2);
    }

    private static void renewingAheadOfStart() {
        PledgeHouse x = lent(1000, 1);
        DUE.is("first", x.renew(1, 1000, 2), 20);
        DUE.is("start", x.told(1, 4), 30);
        DUE.is("second, with nothing to pay", x.renew(1, 1000, 3), 0);
        DUE.is("start stays", x.told(1, 4), 30);
        DUE.is("term", x.told(1, 5), 3);
        DUE.is("the second is undone", x.undo(1), 0);
        DUE.is("term of the first", x.told(1, 5), 2);
        DUE.is("then none is there", x.undo(1), -2);
        DUE.is("paying a part ahead of start", x.pay(1, 1000, 999), 1);
        x.day(30);
        DUE.is("a coin's interest is a coin", x.told(1, 2), 1);
    }

    private static void undoing() {
        PledgeHouse x = lent(1000, 1);
        DUE.is("undo(0)", x.undo(0), -1);
        DUE.is("none was renewed", x.undo(1), -2);
        x.day(40);
        x.claim(1);
        x.day(10);
        DUE.is("claimed days", x.drop(1), 10);
        x.rule(4, 100);
        DUE.is("renew", x.renew(1, 1000, 6), 40);
        DUE.is("claimed of this term", x.told(1, 10), 0);
        DUE.is("undo", x.undo(1), 40);
        int[] told = {0, 1000, 40, 2, 0, 1, 20, 0, 30 + 20 + 10, 0, 10};
        for (int what = 0; what < told.length; what++) {
            DUE.is("undone told(1, " + what + ")", x.told(1, what), told[what]);
        }
        DUE.is("the coins went back", x.sum(1), 0);
        DUE.is("interest is open again", x.sum(9), 40);
        DUE.is("none is left", x.undo(1), -2);
        x.renew(1, 1000, 6);
        x.day(1);
        DUE.is("its day is over", x.undo(1), -5);
        x.pay(1, 1000, 1);
        DUE.is("paid since", x.undo(1), -2);
    }

    private static void whatEndsUndoing() {
        PledgeHouse x = lent(1000, 1);
        x.renew(1, 1000, 1);
        DUE.is("a refused part", x.pay(1, 1000, 1000), -6);
        x.tear(1, 1);
        x.oath(1);
        DUE.is("tearing, oaths and refused parts leave it", x.undo(1), 20);
        x.renew(1, 1000, 1);
        x.pay(1, 1000, 1);
        DUE.is("paid since", x.undo(1), -2);
        x.renew(1, 1000, 1);
        x.claim(1);
        DUE.is("claimed since", x.undo(1), -2);
        x.drop(1);
        DUE.is("dropped, but claimed since", x.undo(1), -2);
        x.renew(1, 1000, 1);
        x.redeem(1, 1000, 999);
        DUE.is("not open", x.undo(1), -2);
        PledgeHouse y = new PledgeHouse();
        y.item(0, 100);
        y.item(0, 100);
        y.lend(0, 10, 1);
        y.renew(1, 1070, 1);
        DUE.is("refused taking out", y.out(1, 1070, 5), -2);
        y.image();
        DUE.is("undone", y.undo(1), 1);
        y.back();
        DUE.is("taking out", y.out(1, 1070, 0), 100);
        DUE.is("taken out since", y.undo(1), -2);
        PledgeHouse z = lent(1000, 1);
        z.renew(1, 1000, 1);
        z.day(80);
        z.forfeit(1);
        DUE.is("forfeit, its day is over", z.undo(1), -5);
    }

    private static void redeeming() {
        PledgeHouse x = lent(1000, 1);
        x.day(31);
        DUE.is("redeem(2)", x.redeem(2, 0, 0), -1);
        x.claim(1);
        DUE.is("claim", x.redeem(1, 1, 0), -3);
        x.drop(1);
        DUE.is("half", x.redeem(1, 1, 0), -4);
        DUE.is("too few", x.redeem(1, 1000, 1039), -6);
        DUE.is("too many", x.redeem(1, 1000, 1041), -6);
        DUE.is("just that", x.redeem(1, 1000, 1040), 0);
        DUE.is("given back", x.place(0, 0), -1);
        DUE.is("place is free", x.thing(0, 5), 0);
        DUE.is("a second time", x.redeem(1, 1000, 1040), -2);
        x.day(60);
        DUE.is("how it stands", x.told(1, 0), 1);
        DUE.is("principal last", x.told(1, 1), 1000);
        DUE.is("interest last", x.told(1, 2), 40);
        DUE.is("months last", x.told(1, 3), 2);
        DUE.is("the new thing is under none", x.place(0, 2), 0);
        DUE.is("a new ticket there", x.lend(0, 3, 1), 2);
        DUE.is("tearing the old one", x.tear(1, 0), 0);
        DUE.is("leaves the new one", x.place(0, 2), 2);
        DUE.is("check", x.check(), 0);
    }

    private static void takingOut() {
        PledgeHouse x = new PledgeHouse();
        x.item(0, 1000);
        x.item(0, 500);
        x.item(0, 250);
        x.lend(0, 400, 1);
        x.thing(1, 1000);
        x.lend(1, 10, 1);
        DUE.is("no such ticket", x.out(3, 0, 0), -1);
        DUE.is("no such item", x.out(1, 0, 6), -1);
        DUE.is("no such item below", x.out(1, 0, -1), -1);
        DUE.is("not in it", x.out(1, 0, 3), -2);
        DUE.is("no lot", x.out(2, 2070, 0), -2);
        x.claim(1);
        DUE.is("claim", x.out(1, 0, 0), -3);
        x.drop(1);
        DUE.is("half", x.out(1, 1, 0), -4);
        DUE.is("450 of 750 bear 408", x.out(1, 3800 % 1000 + 1000, 0), 750);
        DUE.is("items", x.place(0, 5), 2);
        DUE.is("worth", x.place(0, 1), 750);
        DUE.is("300 of 500 bear no 408", x.out(1, 1800, 2), -6);
        x.rule(11, 816);
        DUE.is("408 of 500 do", x.out(1, 1800, 2), 500);
        DUE.is("taken out already", x.out(1, 1800, 2), -2);
        DUE.is("the last one", x.out(1, 1800, 1), -6);
        x.day(60);
        x.forfeit(1);
        DUE.is("forfeit", x.out(1, 1800, 1), -2);
    }

    private static void forfeiting() {
        PledgeHouse x = lent(1000, 2);
        DUE.is("forfeit(0)", x.forfeit(0), -1);
        x.day(79);
        DUE.is("a day too early", x.forfeit(1), -5);
        x.rule(0, 19);
        x.claim(1);
        DUE.is("claim", x.forfeit(1), -3);
        x.drop(1);
        DUE.is("grace as it is now, a day claimed from today on is none", x.told(1, 8), 79);
        DUE.is("forfeit", x.forfeit(1), 1060);
        DUE.is("is forfeit", x.told(1, 7), 1);
        DUE.is("still open", x.told(1, 0), 0);
        DUE.is("forfeit again", x.forfeit(1), -2);
        DUE.is("paid no more", x.pay(1, 1000, 1), -2);
        DUE.is("renewed no more", x.renew(1, 1000, 1), -2);
        DUE.is("redeemed no more", x.redeem(1, 1000, 1060), -2);
        x.day(11);
        DUE.is("months go on", x.told(1, 2), 80);
        PledgeHouse y = lent(1000, 2);
        y.redeem(1, 1000, 1020);
        y.day(100);
        DUE.is("closed", y.forfeit(1), -2);
    }

    private static void theMostInterest() {
        PledgeHouse x = new PledgeHouse();
        x.rule(3, 10000);
        x.rule(5, 200);
        x.rule(10, 1000);
        x.gold(0, 10000f, 1000);
        x.lend(0, 10000000, 12);
        DUE.is("a month's most", x.told(1, 2), 2000000);
        for (int i = 0; i < 18; i++) {
            x.day(400);
        }
        x.day(100);
        DUE.is("of 244 months", x.told(1, 2), 244 * 2000000);
        DUE.is("all of them open", x.as(7300, 9), 488000000L);
        DUE.is("redeemed", x.redeem(1, 1000, 498000000), 0);
        DUE.is("check", x.check(), 0);
    }
}
