/** The edges of term 3, halves and oaths: promises 13, 14 and 31, and what a holder shows in 15, 16, 18, 19, 23. */
public final class HalfEdgesTest {
    private static final Due DUE = new Due("HalfEdgesTest");
    /** Ticket 1 on a LOT: 500 coins, half 1500, and ticket 2: 100 coins, half 2700. */
    private static final String LENT =
        "item(0, 1000) item(0, 1000) lend(0, 500, 1) item(1, 900) item(1, 900) lend(1, 100, 1) ";
    private static final String SOLD = "day(50) forfeit(1) bid(1, 700) sale(1) ";

    public static void main(String[] args) {
        theHoldersHalf();
        promise13Tear();
        promise13WhatIsMissing();
        promise14Oath();
        promise14FromThisDayOn();
        rightHalves();
        rightHalvesOfATornOne();
        rightHalvesOfAnother();
        showingNone();
        aRightHalfEndsAnOath();
        aWrongOneChangesNothing();
        promise31Half();
        DUE.end();
    }

    private static Edges says(String sentence) {
        return Edges.of(DUE, sentence);
    }

    private static void theHoldersHalf() {
        Edges at = says("1,000 times the ticket and (7 times the LOAN and 13 times the DAY) modulo 1,000");
        half(at.in("thing(0, 1000) lend(0, 1, 1)"), 1, 1007);
        half(at.in("thing(0, 1000) lend(0, 142, 1)"), 1, 1994);
        half(at.in("thing(0, 1000) lend(0, 143, 1)"), 1, 1001);
        half(at.in("day(2) thing(0, 1000) lend(0, 139, 1)"), 1, 1999);
        half(at.in("day(1) thing(0, 1000) lend(0, 141, 1)"), 1, 1000);
        half(at.in(Edges.days(7300) + "thing(0, 1000000) lend(0, 600000, 12)"), 1, 1900);
        half(at.in("rule(3, 10000) rule(10, 1000) gold(0, 10000, 1000) lend(0, 9999999, 1)"), 1, 1993);
        half(at.in(LENT), 2, 2700);
        at.in(LENT).looks("told(1, 16)", 1500).looks("told(1, 15)", 1);
        at.in(LENT + "day(30) rule(4, 100) pay(2, 2700, 50) renew(2, 2700, 1)").looks("told(2, 16)", 2700);
    }

    private static void half(Edges at, int ticket, int due) {
        at.looks("half()", due).looks("told(" + ticket + ", 16)", due).looks("told(" + ticket + ", 15)", ticket);
    }

    private static void promise13Tear() {
        Edges at = says("how 0 all of it is missing, 1 all but its number: 0. -1, -2 (it was torn), -6").in(LENT);
        at.refused("tear(1, -1)", -6).taken("tear(1, 0)", 0).taken("tear(1, 1)", 0).refused("tear(1, 2)", -6);
        at.refused("tear(1, min)", -6).refused("tear(1, max)", -6);
        for (String t : new String[] {"0", "3", "-1", "min", "max"}) {
            at.refused("tear(" + t + ", 0)", -1).refused("tear(" + t + ", 2)", -1);
        }
        for (int how = 0; how <= 1; how++) {
            Edges torn = at.in(LENT + "tear(1, " + how + ")");
            torn.refused("tear(1, 0)", -2).refused("tear(1, 1)", -2).refused("tear(1, 2)", -2)
                .refused("tear(1, -1)", -2);
            torn.taken("tear(2, 0)", 0);
        }
        at.in(LENT + "image() tear(1, 0) back()").taken("tear(1, 1)", 0);
        says("bids, halves, oaths go on").in(LENT + "claim(1)").taken("tear(1, 0)", 0)
            .in(LENT + "day(50) forfeit(1)").taken("tear(1, 1)", 0);
        Edges closed = says("The house's half of a ticket is torn");
        closed.in(LENT + "redeem(1, 1500, 510)").taken("tear(1, 0)", 0).refused("tear(1, 2)", -6);
        closed.in(LENT + SOLD).taken("tear(1, 1)", 0);
        closed.in(LENT + "claim(1) prove(1) tear(1, 1)").refused("tear(1, 1)", -2);
    }

    private static void promise13WhatIsMissing() {
        Edges at = says(
            "15 the ticket's number, or NONE if that is missing, 16 the holder's half, or NONE if it is gone");
        at.in(LENT).tells(2, 15, 2, 2700);
        at.in(LENT + "tear(2, 0)").tells(2, 15, -1, -1).tells(1, 15, 1, 1500).looks("half()", 2700);
        at.in(LENT + "tear(2, 1)").tells(2, 15, 2, -1).tells(1, 15, 1, 1500).looks("half()", 2700);
        at.in(LENT + "tear(1, 0) redeem(1, 1500, 510)").tells(1, 15, -1, -1);
    }

    private static void promise14Oath() {
        Edges at = says("The holder of an OPEN ticket tells an OATH from this day on: 0. -1, -2");
        at.in(LENT).taken("oath(1)", 0).taken("oath(2)", 0);
        for (String t : new String[] {"0", "3", "-1", "min", "max"}) {
            at.in(LENT).refused("oath(" + t + ")", -1);
        }
        at.in(LENT + "claim(1)").taken("oath(1)", 0).in(LENT + "day(50) forfeit(1)").taken("oath(1)", 0);
        at.in(LENT + "oath(1) redeem(1, 1500, 510)").refused("oath(1)", -2).taken("oath(2)", 0);
        at.in(LENT + SOLD).refused("oath(1)", -2).in(LENT + "oath(1) claim(1) prove(1)").refused("oath(1)", -2);
        says("17 the day of an OATH, or NONE").in(LENT).tells(1, 17, -1).in(LENT + "oath(1)").tells(1, 17, 0)
            .tells(2, 17, -1).in(LENT + "day(9) oath(1) day(9)").tells(1, 17, 9);
    }

    private static void promise14FromThisDayOn() {
        Edges at = says("RIGHT if an OATH was told 14 days ago at least");
        at.in(LENT).refused("pay(1, 0, 5)", -4).in(LENT + "oath(1)").refused("pay(1, 0, 5)", -4);
        at.in(LENT + "oath(1) day(13)").refused("pay(1, 0, 5)", -4).refused("renew(1, 0, 1)", -4)
            .refused("redeem(1, 0, 510)", -4).refused("out(1, 0, 0)", -4);
        at.in(LENT + "oath(1) day(14)").taken("pay(1, 0, 5)", 505).taken("renew(1, 0, 1)", 10)
            .taken("redeem(1, 0, 510)", 0).taken("out(1, 0, 0)", 1000).refused("pay(2, 0, 5)", -4);
        at.in(LENT + "oath(1) day(15)").taken("pay(1, 0, 5)", 505).in(LENT + "day(5) oath(1) day(13)")
            .refused("pay(1, 0, 5)", -4).in(LENT + "day(5) oath(1) day(14)").taken("pay(1, 0, 5)", 505);
        Edges anew = says("(a second one begins anew)");
        anew.in(LENT + "oath(1) day(14) oath(1)").tells(1, 17, 14).refused("pay(1, 0, 5)", -4);
        anew.in(LENT + "oath(1) day(1) oath(1) day(13)").refused("pay(1, 0, 5)", -4);
        anew.in(LENT + "oath(1) day(1) oath(1) day(14)").taken("pay(1, 0, 5)", 505);
        Edges fetched = says("Who shows none (0) .. of a SOLD ticket");
        fetched.in(LENT + "day(50) forfeit(1) bid(1, 700) oath(1) sale(1) day(13)").refused("fetch(1, 0)", -4);
        fetched.in(LENT + "day(50) forfeit(1) bid(1, 700) oath(1) sale(1) day(14)").taken("fetch(1, 0)", 145);
        fetched.in(LENT + SOLD + "day(14)").refused("fetch(1, 0)", -4);
    }

    private static void rightHalves() {
        Edges at = says("A half that is shown is RIGHT if it is that number").in(LENT);
        String[] wrongs = {"1499", "1501", "1000", "1999", "2500", "500", "2700", "-1500", "1", "min", "max"};
        for (String wrong : wrongs) {
            at.refused("pay(1, " + wrong + ", 5)", -4).refused("renew(1, " + wrong + ", 1)", -4)
                .refused("redeem(1, " + wrong + ", 510)", -4).refused("out(1, " + wrong + ", 0)", -4)
                .in(LENT + SOLD).refused("fetch(1, " + wrong + ")", -4);
        }
        at.taken("pay(1, 1500, 5)", 505).taken("renew(1, 1500, 1)", 10).taken("redeem(1, 1500, 510)", 0)
            .taken("out(1, 1500, 0)", 1000).in(LENT + SOLD).taken("fetch(1, 1500)", 145);
    }

    private static void rightHalvesOfATornOne() {
        for (int how = 0; how <= 1; how++) {
            String torn = LENT + "tear(1, " + how + ") ";
            Edges at = says("if the house's half is gone, if it is 1,000 times the ticket and any 0 .. 999").in(torn);
            for (String wrong : new String[] {"999", "2000", "0", "-1000", "1", "min", "max"}) {
                at.refused("pay(1, " + wrong + ", 5)", -4).refused("renew(1, " + wrong + ", 1)", -4)
                    .refused("redeem(1, " + wrong + ", 510)", -4).refused("out(1, " + wrong + ", 0)", -4)
                    .in(torn + SOLD).refused("fetch(1, " + wrong + ")", -4);
            }
            for (String right : new String[] {"1000", "1001", "1500", "1999"}) {
                at.taken("pay(1, " + right + ", 5)", 505).taken("renew(1, " + right + ", 1)", 10)
                    .taken("redeem(1, " + right + ", 510)", 0).taken("out(1, " + right + ", 0)", 1000)
                    .in(torn + SOLD).taken("fetch(1, " + right + ")", 145);
            }
            at.in(torn + "oath(1) day(14)").taken("pay(1, 0, 5)", 505);
            at.in(LENT + SOLD + "tear(1, " + how + ")").taken("fetch(1, 1000)", 145).refused("fetch(1, 2000)", -4);
        }
    }

    private static void rightHalvesOfAnother() {
        Edges at = says("(then only the holder's half tells)").in(LENT + "tear(2, 0)");
        at.refused("pay(2, 1999, 5)", -4).taken("pay(2, 2000, 5)", 97).taken("pay(2, 2999, 5)", 97);
        at.refused("pay(2, 3000, 5)", -4).refused("pay(1, 1000, 5)", -4).taken("pay(1, 1500, 5)", 505);
        String third = LENT + "thing(2, 1000) lend(2, 7, 1) tear(3, 1) ";
        at.in(third).refused("pay(3, 2999, 1)", -4).taken("pay(3, 3000, 1)", 7).taken("pay(3, 3999, 1)", 7)
            .refused("pay(3, 4000, 1)", -4);
    }

    private static void showingNone() {
        Edges at = says("Whoever shows a RIGHT half ends an OATH: who shows none leaves it").in(LENT);
        String sworn = LENT + "oath(1) day(14) ";
        at.in(sworn + "pay(1, 0, 5)").tells(1, 17, 0).taken("pay(1, 0, 5)", 500);
        at.in(sworn + "renew(1, 0, 1)").tells(1, 17, 0).taken("renew(1, 0, 1)", 0);
        at.in(sworn + "out(1, 0, 0)").tells(1, 17, 0);
        at.in(sworn + "redeem(1, 0, 510)").tells(1, 17, 0);
        at.in(sworn + SOLD + "fetch(1, 0)").tells(1, 17, 0).refused("fetch(1, 0)", -2);
    }

    private static void aRightHalfEndsAnOath() {
        Edges at = says("Whoever shows a RIGHT half ends an OATH");
        for (String days : new String[] {"", "day(13) ", "day(14) "}) {
            String sworn = LENT + "oath(1) oath(2) " + days;
            at.in(sworn + "pay(1, 1500, 5)").tells(1, 17, -1).tells(2, 17, 0).refused("pay(1, 0, 5)", -4);
            at.in(sworn + "renew(1, 1500, 1)").tells(1, 17, -1).refused("renew(1, 0, 1)", -4);
            at.in(sworn + "redeem(1, 1500, 510)").tells(1, 17, -1).tells(2, 17, 0);
            at.in(sworn + "out(1, 1500, 0)").tells(1, 17, -1).refused("redeem(1, 0, 510)", -4);
            at.in(sworn + SOLD + "fetch(1, 1500)").tells(1, 17, -1).tells(2, 17, 0);
            at.in(sworn + "tear(1, 1) pay(1, 1999, 5)").tells(1, 17, -1);
        }
        at.in(LENT + "oath(1) pay(1, 1500, 5) day(14)").refused("pay(1, 0, 5)", -4);
        at.in(LENT + "oath(1) pay(1, 1500, 5) oath(1) day(14)").taken("pay(1, 0, 5)", 500);
    }

    private static void aWrongOneChangesNothing() {
        Edges at = says("A wrong one changes nothing");
        String sworn = LENT + "oath(1) day(14) ";
        at.in(sworn).refused("pay(1, 1501, 5)", -4).refused("renew(1, 1501, 1)", -4)
            .refused("redeem(1, 1501, 510)", -4).refused("out(1, 1501, 0)", -4);
        at.in(sworn + SOLD).refused("fetch(1, 1501)", -4);
        Edges refused = says("REFUSED acts change nothing but STATUS: a RIGHT half of a refused act ends no OATH");
        refused.in(sworn).refused("pay(1, 1500, 0)", -6).refused("renew(1, 1500, 0)", -6)
            .refused("redeem(1, 1500, 509)", -6).refused("out(1, 1500, 5)", -2).refused("pay(1, 0, 0)", -6);
        refused.in(sworn + "claim(1)").refused("renew(1, 1500, 1)", -3).refused("redeem(1, 1500, 510)", -3)
            .refused("out(1, 1500, 0)", -3);
        refused.in(sworn + "rule(2, 1) " + SOLD + "day(2)").refused("fetch(1, 1500)", -5).refused("fetch(1, 0)", -5);
    }

    private static void promise31Half() {
        Edges at = says("the holder's half of the latest ticket; 0 ahead of any");
        at.looks("half()", 0).in("thing(0, 1000)").looks("half()", 0).in("thing(0, 10) lend(0, 5, 1)")
            .looks("half()", 1035);
        at.in("thing(0, 1000)").refused("lend(0, 601, 1)", -6);
        at.in(LENT).looks("half()", 2700).in(LENT + "redeem(2, 2700, 102)").looks("half()", 2700);
        at.in("image() " + LENT + "back()").looks("half()", 0);
        at.in("thing(0, 10) lend(0, 5, 1) image() thing(1, 10) lend(1, 6, 1)").looks("half()", 2042);
        at.in("thing(0, 10) lend(0, 5, 1) image() thing(1, 10) lend(1, 6, 1) back()").looks("half()", 1035);
    }
}
