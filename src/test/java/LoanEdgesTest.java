/** The edges of term 2, its loans: promises 12 and 15 to 20, and 30. */
public final class LoanEdgesTest {
    private static final Due DUE = new Due("LoanEdgesTest");
    /** Ticket 1 of 500 coins, half 1500, 10 coins of INTEREST as each month begins. */
    private static final String LENT = "thing(0, 1000) lend(0, 500, 1) ";
    private static final String FORFEIT = LENT + "day(50) forfeit(1) ";
    private static final String[] CLOSED = {
        LENT + "redeem(1, 1500, 510) ", FORFEIT + "bid(1, 700) sale(1) ", LENT + "claim(1) prove(1) "};
    private static final String[] NO_TICKETS = {"0", "2", "-1", "512", "min", "max"};

    public static void main(String[] args) {
        promise12LendPlaces();
        promise12LendAmount();
        promise12LendMonths();
        interestByMonthsBegun();
        interestCutUp();
        interestOfWhatIsLeft();
        rateForGood();
        promise15Pay();
        promise15PayInterestFirst();
        promise16Renew();
        promise16Start();
        promise16TermAnew();
        promise17Undo();
        promise17UndoneAsItWas();
        promise17NoneToBeUndone();
        promise18Redeem();
        promise19Out();
        promise19RestBears();
        promise20Forfeit();
        promise20AsItIsNow();
        forfeitNoMore();
        notOpenNoMore();
        noSuchTicket();
        promise30Told();
        promise30AsTheyWereLast();
        mostOfAll();
        DUE.end();
    }

    private static Edges says(String sentence) {
        return Edges.of(DUE, sentence);
    }

    private static void promise12LendPlaces() {
        Edges at = says("A LOAN on the pledge of a PLACE: the ticket. -1, -2 (no pledge, under a ticket)");
        for (String place : new String[] {"-1", "40", "min", "max"}) {
            at.refused("lend(" + place + ", 5, 1)", -1).refused("lend(" + place + ", 0, 0)", -1);
        }
        at.refused("lend(0, 5, 1)", -2).refused("lend(0, 0, 0)", -2).in("box(0)").refused("lend(0, 5, 1)", -2);
        at.in("thing(0, 10)").taken("lend(0, 5, 1)", 1).refused("lend(1, 5, 1)", -2);
        at.in("thing(39, 10)").taken("lend(39, 5, 1)", 1);
        at.in("thing(0, 10) away(0)").refused("lend(0, 5, 1)", -2);
        at.in(LENT).refused("lend(0, 5, 1)", -2).refused("lend(0, 0, 13)", -2);
        at.in(FORFEIT).refused("lend(0, 5, 1)", -2);
        for (String closed : CLOSED) {
            at.in(closed).refused("lend(0, 5, 1)", -2).in(closed + "thing(0, 10)").taken("lend(0, 5, 1)", 2);
        }
        says("TICKETS have numbers 1, 2, ..").in(LENT + "thing(1, 10) thing(2, 10)").refused("lend(1, 7, 1)", -6)
            .taken("lend(1, 6, 1)", 2).in(LENT + "thing(1, 10) thing(2, 10) lend(1, 6, 1)").taken("lend(2, 6, 1)", 3);
    }

    private static void promise12LendAmount() {
        Edges at = says("A LOAN is at least 1 and at most the WORTH times the PART, by 1,000, cut; -6");
        at.in("thing(0, 1000)").refused("lend(0, 0, 1)", -6).refused("lend(0, -1, 1)", -6)
            .refused("lend(0, min, 1)", -6).taken("lend(0, 1, 1)", 1).taken("lend(0, 600, 1)", 1)
            .refused("lend(0, 601, 1)", -6).refused("lend(0, max, 1)", -6);
        at.in("thing(0, 999)").taken("lend(0, 599, 1)", 1).refused("lend(0, 600, 1)", -6);
        at.in("thing(0, 1)").refused("lend(0, 1, 1)", -6).in("thing(0, 2)").taken("lend(0, 1, 1)", 1);
        at.in("thing(0, 999) rule(9, 1)").refused("lend(0, 1, 1)", -6);
        at.in("thing(0, 1000000) rule(9, 1000)").taken("lend(0, 1000000, 1)", 1).refused("lend(0, 1000001, 1)", -6);
        at.in("coat(0, 1000, 100) day(359)").taken("lend(0, 600, 1)", 1);
        at.in("coat(0, 1000, 100) day(360)").taken("lend(0, 540, 1)", 1).refused("lend(0, 541, 1)", -6);
        at.in(LENT).tells(1, 1, 500).sums(0, 500).looks("place(0, 2)", 1);
    }

    private static void promise12LendMonths() {
        Edges at = says("Its TERM is 1 .. 12 months of 30 days; -6 (months, amount)").in("thing(0, 1000)");
        at.refused("lend(0, 500, 0)", -6).refused("lend(0, 500, -1)", -6).refused("lend(0, 500, min)", -6);
        at.taken("lend(0, 500, 1)", 1).taken("lend(0, 500, 12)", 1);
        at.refused("lend(0, 500, 13)", -6).refused("lend(0, 500, max)", -6);
        at.in(LENT).tells(1, 4, 0, 1, 20, 0, 50);
        at.in("day(7) thing(0, 1000) lend(0, 500, 12)").tells(1, 4, 7, 12, 20, 0, 7 + 360 + 20);
    }

    private static void interestByMonthsBegun() {
        Edges at = says(
            "Month m (from 0 on) begins on START + 30 m; the months that began are those with a beginning up to "
            + "the DAY");
        at.in(LENT).tells(1, 2, 10, 1);
        at.in(LENT + "day(29)").tells(1, 2, 10, 1).in(LENT + "day(30)").tells(1, 2, 20, 2);
        at.in(LENT + "day(59)").tells(1, 2, 20, 2).in(LENT + "day(60)").tells(1, 2, 30, 3);
        String later = "day(17) thing(0, 1000) lend(0, 500, 3) ";
        at.in(later + "day(29)").tells(1, 2, 10, 1).in(later + "day(30)").tells(1, 2, 20, 2);
        Edges on = says("(Months go on beginning as long as the ticket is OPEN, behind the TERM too.)");
        on.in(LENT + "day(389)").tells(1, 2, 130, 13).in(LENT + "day(390)").tells(1, 2, 140, 14);
        on.in(FORFEIT + "day(9)").tells(1, 2, 20, 2).in(FORFEIT + "day(10)").tells(1, 2, 30, 3);
        on.in(LENT + "claim(1) day(30)").tells(1, 2, 20, 2);
    }

    private static void interestCutUp() {
        Edges at = says("INTEREST grows by the PRINCIPAL times the RATE, by 1,000, cut up to a coin");
        int[][] rows = {{20, 1, 1}, {20, 50, 1}, {20, 51, 2}, {20, 100, 2}, {20, 101, 3}, {1, 999, 1}, {1, 1000, 1},
            {1, 1001, 2}, {200, 5, 1}, {200, 6, 2}, {0, 1, 0}, {0, 600000, 0}, {200, 600000, 120000}};
        for (int[] row : rows) {
            String lent = "rule(4, " + row[0] + ") thing(0, 1000000) lend(0, " + row[1] + ", 1) ";
            at.in(lent).tells(1, 2, row[2], 1).in(lent + "day(30)").tells(1, 2, 2 * row[2], 2);
        }
    }

    private static void interestOfWhatIsLeft() {
        Edges at = says("As a month begins INTEREST grows by the PRINCIPAL times the RATE");
        String paid = LENT + "day(29) pay(1, 1500, 260) ";
        at.in(paid).tells(1, 1, 250, 0, 1).in(paid + "day(1)").tells(1, 1, 250, 5, 2);
        paid = LENT + "day(30) pay(1, 1500, 270) ";
        at.in(paid).tells(1, 1, 250, 0, 2).in(paid + "day(29)").tells(1, 1, 250, 0, 2);
        at.in(paid + "day(30)").tells(1, 1, 250, 5, 3);
        at.in(LENT + "pay(1, 1500, 509) day(30)").tells(1, 1, 1, 1, 2);
    }

    private static void rateForGood() {
        Edges at = says("the RATE is that of the pledge's kind on the day on which the TERM began, for good");
        at.in(LENT + "rule(4, 200) day(30)").tells(1, 2, 20).tells(1, 6, 20);
        at.in("rule(4, 200) " + LENT + "rule(4, 0) day(30)").tells(1, 2, 200).tells(1, 6, 200);
        at.in(LENT + "rule(4, 100) renew(1, 1500, 1) rule(4, 0) day(30)").tells(1, 2, 50, 1).tells(1, 6, 100);
        at.in(LENT + "rule(5, 100) renew(1, 1500, 1)").tells(1, 6, 20);
        at.in("rule(4, 0) gold(0, 25, 1000) lend(0, 500, 1)").tells(1, 6, 20);
    }

    private static void promise15Pay() {
        Edges at = says("PAYING a part (1 .. OWED less 1); OWED then; -6").in(LENT);
        at.refused("pay(1, 1500, 0)", -6).refused("pay(1, 1500, -1)", -6).refused("pay(1, 1500, min)", -6);
        at.taken("pay(1, 1500, 1)", 509).taken("pay(1, 1500, 509)", 1);
        at.refused("pay(1, 1500, 510)", -6).refused("pay(1, 1500, 511)", -6).refused("pay(1, 1500, max)", -6);
        at.in(LENT + "day(29)").refused("pay(1, 1500, 510)", -6).in(LENT + "day(30)").taken("pay(1, 1500, 510)", 10)
            .taken("pay(1, 1500, 519)", 1).refused("pay(1, 1500, 520)", -6);
        at.in(LENT + "pay(1, 1500, 509)").refused("pay(1, 1500, 1)", -6).refused("pay(1, 1500, 0)", -6)
            .taken("redeem(1, 1500, 1)", 0);
        at.in(LENT + "pay(1, 1500, 508)").taken("pay(1, 1500, 1)", 1).refused("pay(1, 1500, 2)", -6);
        says("-4 the half is not RIGHT, ahead of -6").in(LENT).refused("pay(1, 1501, 5)", -4)
            .refused("pay(1, 1501, 0)", -4).refused("pay(1, 0, 510)", -4);
        says("While it stands .. (parts may be paid)").in(LENT + "claim(1)").taken("pay(1, 1500, 5)", 505)
            .refused("pay(1, 1501, 5)", -4).refused("pay(1, 1500, 510)", -6);
    }

    private static void promise15PayInterestFirst() {
        Edges at = says("INTEREST first, then the PRINCIPAL is less");
        at.in(LENT + "pay(1, 1500, 9)").tells(1, 1, 500, 1, 1).sums(1, 9, 0).sums(8, 500, 1);
        at.in(LENT + "pay(1, 1500, 10)").tells(1, 1, 500, 0, 1).sums(1, 10, 0).sums(8, 500, 0);
        at.in(LENT + "pay(1, 1500, 11)").tells(1, 1, 499, 0, 1).sums(1, 10, 1).sums(8, 499, 0);
        at.in(LENT + "pay(1, 1500, 9) pay(1, 1500, 2)").tells(1, 1, 499, 0, 1).sums(1, 10, 1);
        at.in(LENT + "pay(1, 1500, 509)").tells(1, 1, 1, 0, 1).sums(1, 10, 499).sums(8, 1, 0);
    }

    private static void promise16Renew() {
        Edges at = says("The TERM is renewed with so many months: the INTEREST that was paid. -6").in(LENT);
        at.refused("renew(1, 1500, 0)", -6).refused("renew(1, 1500, -1)", -6).refused("renew(1, 1500, min)", -6);
        at.taken("renew(1, 1500, 1)", 10).taken("renew(1, 1500, 12)", 10);
        at.refused("renew(1, 1500, 13)", -6).refused("renew(1, 1500, max)", -6);
        at.in(LENT + "day(29)").taken("renew(1, 1500, 1)", 10).in(LENT + "day(30)").taken("renew(1, 1500, 1)", 20);
        at.in(LENT + "pay(1, 1500, 9)").taken("renew(1, 1500, 1)", 1);
        at.in(LENT + "pay(1, 1500, 10)").taken("renew(1, 1500, 1)", 0);
        says("RENEWING pays the INTEREST").in(LENT + "renew(1, 1500, 2)").tells(1, 1, 500, 0, 0).sums(1, 10, 0)
            .sums(8, 500, 0);
        says("-3, then -4, then -6").in(LENT).refused("renew(1, 1501, 1)", -4).refused("renew(1, 1501, 0)", -4)
            .in(LENT + "claim(1)").refused("renew(1, 1500, 1)", -3).refused("renew(1, 1501, 0)", -3)
            .in(LENT + "claim(1) drop(1)").taken("renew(1, 1500, 1)", 10);
    }

    private static void promise16Start() {
        Edges at = says("START is then where the next month begins that did not begin yet; no month has begun");
        at.in(LENT + "renew(1, 1500, 2)").tells(1, 3, 0, 30, 2);
        at.in(LENT + "day(29) renew(1, 1500, 2)").tells(1, 3, 0, 30, 2);
        at.in(LENT + "day(30) renew(1, 1500, 2)").tells(1, 3, 0, 60, 2);
        at.in(LENT + "day(31) renew(1, 1500, 2)").tells(1, 3, 0, 60, 2);
        at.in("day(7) " + LENT + "day(29) renew(1, 1591, 2)").tells(1, 3, 0, 37, 2);
        at.in("day(7) " + LENT + "day(30) renew(1, 1591, 2)").tells(1, 3, 0, 67, 2);
        Edges below = says("(While the DAY is below START no month has begun.)");
        String renewed = LENT + "renew(1, 1500, 2) ";
        below.in(renewed + "day(29)").tells(1, 2, 0, 0).taken("renew(1, 1500, 3)", 0);
        below.in(renewed + "day(29) renew(1, 1500, 3)").tells(1, 3, 0, 30, 3);
        below.in(renewed + "day(30)").tells(1, 2, 10, 1).taken("renew(1, 1500, 3)", 10);
        below.in(renewed + "day(30) renew(1, 1500, 3)").tells(1, 3, 0, 60, 3);
        below.in(renewed + "day(59)").tells(1, 2, 10, 1).in(renewed + "day(60)").tells(1, 2, 20, 2);
        below.in(renewed + "day(29)").taken("redeem(1, 1500, 500)", 0).refused("pay(1, 1500, 500)", -6)
            .taken("pay(1, 1500, 499)", 1);
    }

    private static void promise16TermAnew() {
        Edges at = says("the TERM begins anew, with as many months as told");
        at.in(LENT + "renew(1, 1500, 1)").tells(1, 8, 80).in(LENT + "renew(1, 1500, 12)").tells(1, 8, 410);
        at.in(LENT + "renew(1, 1500, 1) day(79)").refused("forfeit(1)", -5);
        at.in(LENT + "renew(1, 1500, 1) day(80)").taken("forfeit(1)", 520);
        at.in(LENT + "day(31) claim(1) day(5) drop(1)").tells(1, 8, 55, 0, 5);
        at.in(LENT + "day(31) claim(1) day(5) drop(1) renew(1, 1500, 1)").tells(1, 8, 110, 0, 0);
        at.in(LENT + "day(49)").taken("renew(1, 1500, 1)", 20).in(LENT + "day(300)").taken("renew(1, 1500, 1)", 110);
    }

    private static void promise17Undo() {
        String renewed = LENT + "day(10) renew(1, 1500, 2) ";
        Edges at = says("On its day the latest renewing may be undone; -5 (its day is over)");
        at.in(renewed).taken("undo(1)", 10).in(renewed + "day(1)").refused("undo(1)", -5);
        at.in(renewed + "day(400)").refused("undo(1)", -5);
        at.in(renewed + "day(100) forfeit(1)").refused("undo(1)", -5);
        at.in(LENT + "pay(1, 1500, 10) renew(1, 1500, 2)").taken("undo(1)", 0);
        Edges since = says("if the ticket was not paid, renewed, taken out of or claimed since, and is OPEN");
        since.in(renewed + "pay(1, 1500, 1)").refused("undo(1)", -2);
        since.in(renewed + "pay(1, 1500, 1) day(1)").refused("undo(1)", -2);
        since.in(renewed + "claim(1)").refused("undo(1)", -2).in(renewed + "claim(1) drop(1)").refused("undo(1)", -2);
        since.in(renewed + "renew(1, 1500, 3)").taken("undo(1)", 0);
        since.in(renewed + "renew(1, 1500, 3) undo(1)").refused("undo(1)", -2).tells(1, 3, 0, 30, 2);
        since.in(renewed + "redeem(1, 1500, 500)").refused("undo(1)", -2);
        since.in(renewed + "claim(1) prove(1)").refused("undo(1)", -2);
        since.in(renewed + "day(100) forfeit(1) bid(1, 5) sale(1)").refused("undo(1)", -2);
        since.in(renewed + "tear(1, 0) oath(1) rule(4, 50)").taken("undo(1)", 10);
        since.in(renewed + "thing(1, 10) lend(1, 5, 1) pay(2, 2165, 1) claim(2)").taken("undo(1)", 10);
        String lot = "item(0, 500) item(0, 500) lend(0, 100, 1) renew(1, 1700, 1) ";
        since.in(lot).taken("undo(1)", 2).in(lot + "out(1, 1700, 0)").refused("undo(1)", -2);
        since.in(lot + "image() out(1, 1700, 0) back()").taken("undo(1)", 2);
    }

    private static void promise17UndoneAsItWas() {
        Edges at = says("START, TERM, RATE, months, INTEREST, CLAIMED days are as they were, and the coins go back");
        String claimed = LENT + "day(31) claim(1) day(5) drop(1) ";
        int[] told = {0, 500, 20, 2, 0, 1, 20, 0, 55, 0, 5};
        at.in(claimed).tells(1, 0, told).sums(1, 0).sums(9, 20);
        at.in(claimed + "rule(4, 50) renew(1, 1500, 7)").tells(1, 0, 0, 500, 0, 0, 60, 7, 50, 0, 290, 0, 0).sums(1, 20)
            .taken("undo(1)", 20);
        at.in(claimed + "rule(4, 50) renew(1, 1500, 7) undo(1)").tells(1, 0, told).sums(1, 0).sums(9, 20)
            .taken("renew(1, 1500, 3)", 20);
        at.in(claimed + "renew(1, 1500, 7) undo(1) day(24)").tells(1, 2, 30, 3);
        at.in(claimed + "renew(1, 1500, 7) undo(1) day(18)").refused("forfeit(1)", -5);
        at.in(claimed + "renew(1, 1500, 7) undo(1) day(19)").taken("forfeit(1)", 520);
        at.in(LENT + "renew(1, 1500, 2) undo(1) day(1)").looks("as(0, 1)", 0).looks("as(0, 9)", 10);
        at.in(LENT + "renew(1, 1500, 2) day(1)").looks("as(0, 1)", 10).looks("as(0, 9)", 0);
    }

    private static void promise17NoneToBeUndone() {
        Edges at = says("-2 (none is there to be undone); (then there is none to be undone)");
        at.in(LENT).refused("undo(1)", -2).in(LENT + "renew(1, 1500, 2) undo(1)").refused("undo(1)", -2);
        at.in(LENT + "renew(1, 1500, 2) undo(1) day(1)").refused("undo(1)", -2);
        at.in(LENT + "renew(1, 1500, 2) undo(1) renew(1, 1500, 3)").taken("undo(1)", 10);
        at.in(LENT + "thing(1, 10) lend(1, 5, 1) renew(2, 2035, 2)").refused("undo(1)", -2).taken("undo(2)", 1);
        at.in(FORFEIT).refused("undo(1)", -2);
    }

    private static void promise18Redeem() {
        Edges at = says("The pledge is given back for coins: 0. -6 (not just what is OWED)");
        at.in(LENT).refused("redeem(1, 1500, 509)", -6).taken("redeem(1, 1500, 510)", 0)
            .refused("redeem(1, 1500, 511)", -6).refused("redeem(1, 1500, 0)", -6)
            .refused("redeem(1, 1500, -510)", -6).refused("redeem(1, 1500, min)", -6)
            .refused("redeem(1, 1500, max)", -6);
        at.in(LENT + "day(29)").taken("redeem(1, 1500, 510)", 0).refused("redeem(1, 1500, 520)", -6);
        at.in(LENT + "day(30)").refused("redeem(1, 1500, 510)", -6).taken("redeem(1, 1500, 520)", 0);
        at.in(LENT + "day(400)").taken("redeem(1, 1500, 640)", 0);
        at.in(LENT + "redeem(1, 1500, 510)").tells(1, 0, 1).looks("place(0, 0)", -1).sums(1, 10, 500)
            .sums(8, 0, 0, 0, 0, 1).taken("thing(0, 5)", 0);
        says("-3, then -4, then -6").in(LENT).refused("redeem(1, 1501, 510)", -4).refused("redeem(1, 1501, 0)", -4)
            .in(LENT + "claim(1)").refused("redeem(1, 1500, 510)", -3).refused("redeem(1, 1501, 0)", -3)
            .in(LENT + "claim(1) drop(1)").taken("redeem(1, 1500, 510)", 0);
    }

    private static void promise19Out() {
        String lot = "item(0, 500) item(0, 400) item(0, 300) lend(0, 100, 1) ";
        Edges at = says("-1 (ticket; item not 0 .. 5), -2 (also: no LOT, or that item is not in it)").in(lot);
        at.refused("out(1, 1700, -1)", -1).refused("out(1, 1700, 6)", -1);
        at.refused("out(1, 1700, min)", -1).refused("out(1, 1700, max)", -1);
        at.taken("out(1, 1700, 0)", 700).taken("out(1, 1700, 1)", 800).taken("out(1, 1700, 2)", 900);
        at.refused("out(1, 1700, 3)", -2).refused("out(1, 1700, 5)", -2).refused("out(1, 1701, 3)", -2);
        at.in(lot + "out(1, 1700, 1)").refused("out(1, 1700, 1)", -2).looks("place(0, 5)", 2).looks("place(0, 1)", 800);
        at.in("item(0, 100) item(0, 100) item(0, 100) item(0, 100) item(0, 100) item(0, 100) lend(0, 100, 1)")
            .taken("out(1, 1700, 0)", 500).taken("out(1, 1700, 5)", 500).refused("out(1, 1700, 6)", -1);
        at.in(LENT).refused("out(1, 1500, 0)", -2).refused("out(1, 1501, 0)", -2).refused("out(1, 1500, 6)", -1);
        at.in("rare(0, 1) second(0, 100) second(0, 100) lend(0, 5, 1)").refused("out(1, 1035, 0)", -2);
        for (String ending : new String[] {"redeem(1, 1700, 102)", "claim(1) prove(1)", "day(50) forfeit(1)"}) {
            at.in(lot + ending).refused("out(1, 1700, 0)", -2).refused("out(1, 1700, 6)", -1)
                .refused("out(2, 1700, 0)", -1);
        }
        String another = LENT + "redeem(1, 1500, 510) item(0, 500) item(0, 500) ";
        at.in(another).refused("out(1, 1500, 0)", -2).refused("out(2, 1500, 0)", -1);
        at.in(another + "lend(0, 100, 1)").refused("out(1, 1500, 0)", -2).taken("out(2, 2700, 0)", 500);
        says("-3, ahead of -6").in("item(0, 500) lend(0, 100, 1) claim(1)").refused("out(1, 1700, 0)", -3);
        says("-3, -4, -6, the first that holds").in(lot + "claim(1)").refused("out(1, 1700, 0)", -3)
            .refused("out(1, 1701, 0)", -3).refused("out(1, 1700, 3)", -2).refused("out(1, 1700, 6)", -1)
            .in(lot + "claim(1) drop(1)").taken("out(1, 1700, 0)", 700)
            .in(lot).refused("out(1, 1701, 0)", -4).in(lot + "out(1, 1700, 0) out(1, 1700, 1)")
            .refused("out(1, 1701, 2)", -4).refused("out(1, 1700, 2)", -6);
    }

    private static void promise19RestBears() {
        Edges at = says("the OWED may not be more than the rest's WORTH times the PART (as it is now), by 1,000, cut");
        String lot = "item(0, 20) item(0, 21) item(0, 999) lend(0, 100, 1) ";
        at.in(lot + "rule(11, 100)").taken("out(1, 1700, 0)", 1020).refused("out(1, 1700, 1)", -6);
        String two = "item(0, 169) item(0, 170) lend(0, 100, 1) ";
        at.in(two).refused("out(1, 1700, 1)", -6).taken("out(1, 1700, 0)", 170);
        at.in(two + "rule(11, 599)").refused("out(1, 1700, 0)", -6);
        at.in(two + "rule(11, 604)").taken("out(1, 1700, 1)", 169);
        at.in(two + "rule(11, 603)").refused("out(1, 1700, 1)", -6);
        at.in(two + "day(29)").taken("out(1, 1700, 0)", 170).in(two + "day(30)").refused("out(1, 1700, 0)", -6);
        at.in(two + "pay(1, 1700, 1)").taken("out(1, 1700, 1)", 169);
        Edges last = says("(not the last one of those in it); -6 (it is the last one)");
        last.in("item(0, 500) lend(0, 1, 1)").refused("out(1, 1007, 0)", -6);
        last.in(two + "out(1, 1700, 0)").refused("out(1, 1700, 1)", -6).refused("out(1, 1700, 0)", -2);
        last.in("item(0, 500) item(0, 500) lend(0, 1, 1)").taken("out(1, 1007, 0)", 500).taken("out(1, 1007, 1)", 500);
        last.in("item(0, 500) item(0, 500) lend(0, 1, 1) out(1, 1007, 1)").refused("out(1, 1007, 0)", -6);
    }

    private static void promise20Forfeit() {
        Edges at = says("It is FORFEIT by an act, on a day not below START + 30 TERM + grace + CLAIMED days; -5");
        at.in(LENT).refused("forfeit(1)", -5);
        at.in(LENT + "day(49)").refused("forfeit(1)", -5).in(LENT + "day(50)").taken("forfeit(1)", 520);
        at.in(LENT + "day(400)").taken("forfeit(1)", 640);
        String year = "day(3) thing(0, 1000) lend(0, 500, 12) ";
        at.in(year + "day(379)").refused("forfeit(1)", -5).in(year + "day(380)").taken("forfeit(1)", 630);
        String claimed = LENT + "day(28) claim(1) day(5) drop(1) ";
        at.in(claimed + "day(19)").refused("forfeit(1)", -5).in(claimed + "day(20)").taken("forfeit(1)", 520);
        at.in(FORFEIT).tells(1, 7, 1).tells(1, 0, 0).sums(10, 1, 1);
        says("-3, then -5").in(LENT + "claim(1) day(10)").refused("forfeit(1)", -3)
            .in(LENT + "claim(1) day(300)").refused("forfeit(1)", -3)
            .in(LENT + "claim(1) day(300) drop(1)").refused("forfeit(1)", -5)
            .in(LENT + "claim(1) day(300) drop(1) day(20)").taken("forfeit(1)", 610);
    }

    private static void promise20AsItIsNow() {
        Edges at = says("grace (as it is now)");
        at.in(LENT + "day(49) rule(0, 19)").taken("forfeit(1)", 520).tells(1, 8, 49);
        at.in(LENT + "day(50) rule(0, 21)").refused("forfeit(1)", -5).tells(1, 8, 51);
        at.in("rule(0, 200) " + LENT + "rule(0, 0) day(29)").refused("forfeit(1)", -5);
        at.in("rule(0, 200) " + LENT + "rule(0, 0) day(30)").taken("forfeit(1)", 520);
        at.in(FORFEIT + "rule(0, 200)").tells(1, 7, 1).refused("forfeit(1)", -2);
    }

    private static void forfeitNoMore() {
        Edges at = says("A FORFEIT one is paid, renewed, redeemed, taken out no more").in(FORFEIT);
        at.refused("pay(1, 1500, 5)", -2).refused("pay(1, 1501, 0)", -2);
        at.refused("renew(1, 1500, 1)", -2).refused("renew(1, 1501, 0)", -2);
        at.refused("redeem(1, 1500, 520)", -2).refused("redeem(1, 1501, 0)", -2);
        at.refused("forfeit(1)", -2);
        at.taken("tear(1, 0)", 0).taken("oath(1)", 0).taken("claim(1)", 0).taken("bid(1, 5)", 1);
        at.in(FORFEIT + "claim(1)").refused("pay(1, 1500, 5)", -2).refused("renew(1, 1500, 1)", -2)
            .refused("redeem(1, 1500, 520)", -2).refused("forfeit(1)", -2);
        String lot = "item(0, 500) item(0, 500) lend(0, 100, 1) day(50) forfeit(1) ";
        at.in(lot).refused("out(1, 1700, 0)", -2).in(lot + "claim(1)").refused("out(1, 1700, 0)", -2);
    }

    private static void notOpenNoMore() {
        String[] acts = {"oath(1)", "pay(1, 1500, 5)", "renew(1, 1500, 1)", "undo(1)", "redeem(1, 1500, 510)",
            "out(1, 1500, 0)", "forfeit(1)", "bid(1, 5)", "sale(1)", "claim(1)", "drop(1)", "prove(1)"};
        Edges at = says("-2 a ticket that is not OPEN");
        for (String closed : CLOSED) {
            for (String act : acts) {
                at.in(closed).refused(act, -2);
            }
            at.in(closed).refused("pay(1, 5, 0)", -2).refused("renew(1, 5, 0)", -2).refused("redeem(1, 5, 0)", -2)
                .refused("bid(1, 0)", -2).taken("tear(1, 1)", 0);
            at.in(closed + "day(300)").refused("forfeit(1)", -2);
        }
        says("-2 (none, or fetched)").in(CLOSED[0]).refused("fetch(1, 1500)", -2).in(CLOSED[2])
            .refused("fetch(1, 1500)", -2)
            .in(CLOSED[1]).taken("fetch(1, 1500)", 145);
    }

    private static void noSuchTicket() {
        Edges at = says("-1 there is no such ticket");
        for (String t : NO_TICKETS) {
            for (String scene : new String[] {LENT, CLOSED[0], FORFEIT}) {
                at.in(scene).refused("tear(" + t + ", 5)", -1).refused("oath(" + t + ")", -1)
                    .refused("pay(" + t + ", 0, 0)", -1).refused("renew(" + t + ", 0, 0)", -1)
                    .refused("undo(" + t + ")", -1).refused("redeem(" + t + ", 0, 0)", -1)
                    .refused("out(" + t + ", 0, 6)", -1).refused("out(" + t + ", 0, 0)", -1)
                    .refused("forfeit(" + t + ")", -1).refused("bid(" + t + ", 0)", -1)
                    .refused("sale(" + t + ")", -1).refused("fetch(" + t + ", 0)", -1)
                    .refused("claim(" + t + ")", -1).refused("drop(" + t + ")", -1).refused("prove(" + t + ")", -1);
            }
        }
        at.refused("pay(1, 1500, 5)", -1).refused("tear(1, 0)", -1).refused("forfeit(1)", -1);
        at.in("image() " + LENT + "back()").refused("pay(1, 1500, 5)", -1).looks("told(1, 0)", -1);
    }

    private static void promise30Told() {
        Edges at = says("NONE for another what, or no such ticket").in(LENT + "thing(1, 10) lend(1, 5, 2)");
        at.looks("told(1, -1)", -1).looks("told(1, 18)", -1).looks("told(1, min)", -1).looks("told(1, max)", -1);
        at.looks("told(2, 0)", 0).looks("told(2, 14)", 1);
        for (String t : new String[] {"0", "3", "-1", "512", "min", "max"}) {
            for (int what = -1; what <= 18; what++) {
                at.looks("told(" + t + ", " + what + ")", -1);
            }
        }
        at.tells(1, 0, 0, 500, 10, 1, 0, 1, 20, 0, 50, 0, 0, 0, 0, 0, 0, 1, 1500, -1);
        at.tells(2, 0, 0, 5, 1, 1, 0, 2, 20, 0, 80, 0, 0, 0, 0, 0, 1, 2, 2035, -1);
        at.in(CLOSED[1]).tells(1, 0, 2, 500, 20, 2, 0, 1, 20, 1, 50, 0, 0, 700, 145, 0, 0, 1, 1500, -1);
    }

    private static void promise30AsTheyWereLast() {
        Edges at = says("Of one that is not OPEN 1, 2, 3 as they were last");
        at.in(CLOSED[0] + "day(100)").tells(1, 0, 1, 500, 10, 1);
        at.in(CLOSED[1] + "day(100)").tells(1, 0, 2, 500, 20, 2);
        at.in(CLOSED[2] + "day(100)").tells(1, 0, 3, 500, 10, 1);
        at.in(LENT + "day(29) redeem(1, 1500, 510) day(1)").tells(1, 2, 10, 1);
        at.in(LENT + "day(30) redeem(1, 1500, 520) day(30)").tells(1, 2, 20, 2);
        at.in(LENT + "pay(1, 1500, 260) redeem(1, 1500, 250) day(30)").tells(1, 1, 250, 0, 1);
        at.in(LENT + "renew(1, 1500, 1) redeem(1, 1500, 500) day(30)").tells(1, 1, 500, 0, 0);
        at.in(FORFEIT + "bid(1, 700) day(10) sale(1) day(30)").tells(1, 1, 500, 30, 3);
    }

    private static void mostOfAll() {
        Edges at = says("the most gold at the most RATE for the most days stays a whole number of coins");
        String most = "rule(3, 10000) rule(5, 200) rule(10, 1000) gold(0, 10000, 1000) lend(0, 10000000, 12) "
            + Edges.days(7300);
        at.in(most).tells(1, 1, 10000000, 488000000, 244).taken("redeem(1, 1000, 498000000)", 0)
            .taken("pay(1, 1000, 497999999)", 1).refused("pay(1, 1000, 498000000)", -6)
            .taken("renew(1, 1000, 12)", 488000000).taken("forfeit(1)", 498000000)
            .looks("as(7300, 9)", 488000000).looks("as(7199, 9)", 480000000).looks("as(7301, 9)", -1);
        at.in(most + "claim(1)").taken("prove(1)", 498000000);
    }
}
