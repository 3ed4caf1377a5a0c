/** The edges of promises 27, 28 and 32 to 35, and of term 4: images, sums of any day, check, STATUS. */
public final class BookEdgesTest {
    private static final Due DUE = new Due("BookEdgesTest");
    /** Ticket 1 of 500 coins, half 1500. */
    private static final String LENT = "thing(0, 1000) lend(0, 500, 1) ";
    private static final String FORFEIT = LENT + "day(50) forfeit(1) ";

    public static void main(String[] args) {
        promise27Image();
        promise28Back();
        promise28AllIsAsItWas();
        promise32Sum();
        promise32OpenOnes();
        promise33AsDays();
        promise33EndOfADay();
        promise33BooksStay();
        promise34Check();
        promise35Status();
        promise35StatusOfEachAct();
        refusedInARenewedTerm();
        refusedWhileAllGoesOn();
        DUE.end();
    }

    private static Edges says(String sentence) {
        return Edges.of(DUE, sentence);
    }

    private static void promise27Image() {
        Edges at = says("All is kept as it is, instead of what was kept before: 0");
        at.taken("image()", 0).in(LENT).taken("image()", 0).in("image()").taken("image()", 0);
        at.in("image() thing(0, 5) image() away(0) back()").looks("place(0, 0)", 0);
        at.in("thing(0, 5) image() away(0) image() back()").looks("place(0, 0)", -1);
        at.in("day(3) image() day(4) image() day(5) back()").taken("day(1)", 8);
        at.in("day(3) image() day(4) back() day(1) image() back()").taken("day(1)", 5);
    }

    private static void promise28Back() {
        Edges at = says("All is as it was kept (that stays kept): 0. -2: nothing is kept");
        at.refused("back()", -2).in(LENT).refused("back()", -2).in("image()").taken("back()", 0);
        at.in("image() back()").taken("back()", 0);
        at.in("image() thing(0, 5) back()").looks("place(0, 0)", -1).taken("back()", 0);
        at.in("image() thing(0, 5) back() thing(0, 6) back()").looks("place(0, 0)", -1);
        at.in("image() day(400) back()").taken("day(1)", 1).looks("as(1, 0)", -1).looks("as(0, 0)", 0);
        at.in(Edges.days(7300) + "image() back()").refused("day(1)", -5);
        at.in("image() " + Edges.days(7300) + "back()").taken("day(400)", 400);
    }

    private static void promise28AllIsAsItWas() {
        Edges at = says("All is as it was kept");
        at.in(LENT + "image() rule(0, 0) rule(9, 1) back()").tells(1, 8, 50)
            .in("thing(0, 1000) image() rule(9, 1) back()")
            .taken("lend(0, 600, 1)", 1);
        at.in("box(0) image() box(0) back()").looks("place(0, 0)", 5).taken("box(0)", 0);
        at.in("image() box(0) back()").taken("box(0)", 1);
        at.in("item(0, 5) image() item(0, 6) back()").taken("item(0, 7)", 1).looks("place(0, 1)", 5);
        at.in("rare(0, 1) second(0, 5) image() second(0, 6) back()").taken("second(0, 7)", 2).looks("place(0, 1)", 0);
        at.in("thing(0, 5) image() away(0) thing(0, 9) back()").looks("place(0, 1)", 5);
        at.in("coat(0, 1000, 100) day(9) image() day(351) back()").looks("place(0, 1)", 1000);
        at.in(LENT + "image() pay(1, 1500, 100) tear(1, 0) oath(1) claim(1) back()")
            .tells(1, 0, 0, 500, 10, 1, 0, 1, 20, 0, 50, 0, 0, 0, 0, 0, 0, 1, 1500, -1).sums(1, 0, 0);
        at.in(LENT + "image() redeem(1, 1500, 510) back()").taken("redeem(1, 1500, 510)", 0).sums(10, 1, 1, 1);
        at.in(LENT + "image() redeem(1, 1500, 510) thing(0, 10) lend(0, 5, 1) back()").looks("place(0, 2)", 1)
            .looks("told(2, 0)", -1).looks("half()", 1500).sums(10, 1, 1, 1).refused("tear(2, 0)", -1);
        at.in(LENT + "renew(1, 1500, 2) image() pay(1, 1500, 1) back()").taken("undo(1)", 10);
        at.in(LENT + "image() renew(1, 1500, 2) back()").refused("undo(1)", -2).tells(1, 2, 10, 1, 0, 1);
        at.in(FORFEIT + "bid(1, 700) image() bid(1, 800) sale(1) fetch(1, 1500) back()").tells(1, 11, 700, 0, 0)
            .taken("bid(1, 5)", 2).taken("sale(1)", 700);
        at.in(LENT + "day(31) claim(1) image() day(5) drop(1) back() day(2)").taken("drop(1)", 2);
    }

    private static void promise32Sum() {
        Edges at = says("NONE for another what").in(LENT);
        at.looks("sum(-1)", -1).looks("sum(13)", -1).looks("sum(min)", -1).looks("sum(max)", -1);
        at.sums(0, 500, 0, 0, 0, 0, 0, 0, 0, 500, 10, 1, 1, 1);
        at.in("thing(0, 5)").sums(8, 0, 0, 0, 1, 0).in("box(0)").sums(8, 0, 0, 0, 0, 0);
        StringBuilder full = new StringBuilder();
        for (int place = 0; place < 40; place++) {
            full.append("thing(").append(place).append(", 1000000) lend(").append(place).append(", 600000, 1) ");
        }
        says("sums of all places are long").in(full + "rule(4, 200) " + Edges.days(7300))
            .sums(8, 24000000, 40L * 244 * 12000, 40, 40, 40).sums(0, 24000000);
        StringBuilder rich = new StringBuilder("rule(3, 10000) rule(5, 200) rule(10, 1000) ");
        for (int place = 0; place < 40; place++) {
            rich.append("gold(").append(place).append(", 10000, 1000) lend(").append(place).append(", 10000000, 1) ");
        }
        says("sums above what an int holds").in(rich + Edges.days(7300)).sums(8, 400000000L, 19520000000L)
            .looks("as(7300, 9)", 19520000000L).looks("as(1199, 9)", 3200000000L).looks("check()", 0);
    }

    private static void promise32OpenOnes() {
        Edges at = says(
            "8 PRINCIPAL of all OPEN ones, 9 INTEREST of these; 10 tickets that are OPEN, 11 pledges, 12 tickets");
        String two = LENT + "thing(1, 1000) lend(1, 100, 1) ";
        at.in(two).sums(8, 600, 12, 2, 2, 2).in(two + "day(30)").sums(8, 600, 24, 2, 2, 2);
        at.in(two + "redeem(2, 2700, 102)").sums(0, 600, 2, 100).sums(8, 500, 10, 1, 1, 2);
        at.in(two + "claim(2) prove(2)").sums(7, 102, 500, 10, 1, 1, 2);
        at.in(two + "day(50) forfeit(1)").sums(8, 600, 24, 2, 2, 2);
        at.in(two + "day(50) forfeit(1) bid(1, 549) sale(1)").sums(0, 600, 20, 500, 28, 1, 0, 0, 0, 100, 4, 1, 1, 2);
    }

    private static void promise33AsDays() {
        Edges at = says("NONE: another what, or no day up to today").in(LENT + "day(7)");
        at.looks("as(-1, 0)", -1).looks("as(min, 0)", -1).looks("as(0, 0)", 500).looks("as(7, 0)", 500);
        at.looks("as(8, 0)", -1).looks("as(7300, 0)", -1).looks("as(max, 0)", -1);
        at.looks("as(0, -1)", -1).looks("as(0, 13)", -1).looks("as(7, -1)", -1).looks("as(7, 13)", -1);
        at.looks("as(0, min)", -1).looks("as(0, max)", -1).looks("as(0, 12)", 1).looks("as(8, 13)", -1);
        at.in(LENT + Edges.days(7300)).looks("as(7300, 0)", 500).looks("as(7301, 0)", -1).looks("as(7300, 9)", 2440)
            .looks("as(0, 9)", 10);
    }

    private static void promise33EndOfADay() {
        Edges at = says("sum() as it was at the end of a DAY (of today: now)");
        at.in(LENT).looks("as(0, 8)", 500).in(LENT + "pay(1, 1500, 110)").looks("as(0, 8)", 400).looks("as(0, 2)", 100);
        String paid = LENT + "pay(1, 1500, 110) pay(1, 1500, 100) day(5) pay(1, 1500, 100) ";
        at.in(paid).looks("as(0, 8)", 300).looks("as(4, 8)", 300).looks("as(5, 8)", 200).sums(8, 200);
        at.in(paid + "day(1)").looks("as(0, 2)", 200).looks("as(4, 2)", 200).looks("as(5, 2)", 300)
            .looks("as(6, 2)", 300);
        at.in("day(3) thing(0, 5) day(2) away(0) day(1)").looks("as(2, 11)", 0).looks("as(3, 11)", 1)
            .looks("as(4, 11)", 1).looks("as(5, 11)", 0).looks("as(6, 11)", 0);
        at.in("thing(0, 5) away(0) day(1)").looks("as(0, 11)", 0);
        String closed = "day(3) " + LENT + "day(30) redeem(1, 1539, 520) day(30) ";
        at.in(closed).looks("as(2, 12)", 0).looks("as(3, 12)", 1).looks("as(32, 9)", 10).looks("as(32, 10)", 1)
            .looks("as(33, 9)", 0).looks("as(33, 10)", 0).looks("as(33, 1)", 20).looks("as(63, 9)", 0);
        at.in(LENT + "day(60)").looks("as(29, 9)", 10).looks("as(30, 9)", 20).looks("as(59, 9)", 20)
            .looks("as(60, 9)", 30);
        at.in(LENT + "day(5) claim(1) day(5) prove(1) day(5)").looks("as(9, 7)", 0).looks("as(10, 7)", 510);
    }

    private static void promise33BooksStay() {
        Edges at = says("sum() as it was: rules of later days change no book");
        at.in(FORFEIT + "rule(2, 5) bid(1, 700) sale(1) day(6) rule(2, 2000) rule(1, 0) rule(4, 200)")
            .looks("as(50, 3)", 35).looks("as(55, 4)", 145).looks("as(56, 6)", 145).looks("as(49, 9)", 20);
        at.in(LENT + "day(40) renew(1, 1500, 1) undo(1) day(1)").looks("as(40, 1)", 0).looks("as(40, 9)", 20);
        at.in(LENT + "day(40) renew(1, 1500, 1) day(1)").looks("as(39, 9)", 20).looks("as(40, 1)", 20)
            .looks("as(40, 9)", 0);
        at.in(LENT + "day(40) image() day(5) redeem(1, 1500, 520) back() day(5)").looks("as(45, 10)", 1)
            .looks("as(45, 1)", 0).looks("as(39, 9)", 20);
    }

    private static void promise34Check() {
        Edges at = says("how many of these do not hold");
        at.looks("check()", 0);
        String[] scenes = {LENT, LENT + "pay(1, 1500, 100)", LENT + "renew(1, 1500, 1)", LENT + "redeem(1, 1500, 510)",
            LENT + "redeem(1, 1500, 510) thing(0, 5)", LENT + "redeem(1, 1500, 510) thing(0, 5) lend(0, 3, 1)", FORFEIT,
            FORFEIT + "bid(1, 5) sale(1)", FORFEIT + "bid(1, 700) sale(1)", FORFEIT + "bid(1, 300) sale(1) box(0)",
            LENT + "claim(1) prove(1)", LENT + "claim(1) pay(1, 1500, 100) prove(1)",
            LENT + "image() redeem(1, 1500, 510) back()",
            "image() " + LENT + "back()", LENT + "image() redeem(1, 1500, 510) thing(0, 9) back()",
            "item(0, 500) item(0, 500) lend(0, 100, 1) out(1, 1700, 0)"};
        for (String scene : scenes) {
            at.in(scene).looks("check()", 0);
        }
    }

    private static void promise35Status() {
        Edges at = says("the answer of the latest act; 0 ahead of any");
        at.looks("status()", 0).in("day(7)").looks("status()", 7).in("day(7) image()").looks("status()", 0);
        at.in("day(7) image() day(3) back()").looks("status()", 0);
        Edges looking = says("(of those that are not told as looking)").in(LENT + "day(7)");
        for (String call : new String[] {"place(0, 1)", "place(40, 0)", "place(0, 9)", "told(1, 1)", "told(9, 1)",
            "told(1, 99)", "half()", "sum(0)", "sum(99)", "as(0, 0)", "as(99, 0)", "as(0, 99)", "check()",
            "status()"}) {
            looking.looks(call, Call.one(call).on(sevenDaysOn()));
        }
    }

    private static PledgeHouse sevenDaysOn() {
        PledgeHouse x = new PledgeHouse();
        x.thing(0, 1000);
        x.lend(0, 500, 1);
        x.day(7);
        return x;
    }

    /** taken() and refused() look at status() themselves; here each act stands once with each. */
    private static void promise35StatusOfEachAct() {
        Edges at = says("STATUS is the answer of the latest act");
        at.taken("day(9)", 9).refused("day(0)", -6).taken("rule(0, 5)", 0).refused("rule(14, 5)", -1);
        at.taken("thing(0, 5)", 0).refused("thing(0, 0)", -6).taken("gold(0, 3, 1000)", 300)
            .refused("gold(40, 3, 1)", -1);
        at.taken("coat(0, 5, 5)", 0).refused("coat(0, 5, 501)", -6).taken("rare(0, 3)", 300)
            .refused("rare(0, NaN)", -6);
        at.in("rare(0, 3) second(0, 5)").taken("second(0, 5)", 2).refused("second(1, 5)", -2);
        at.in("item(0, 3)").taken("item(0, 5)", 1).refused("item(0, 0)", -6).taken("box(1)", 1).refused("box(0)", -2)
            .taken("away(0)", 0).refused("away(1)", -2).taken("lend(0, 1, 1)", 1).refused("lend(0, 2, 1)", -6);
        at.in(LENT).taken("tear(1, 0)", 0).refused("tear(1, 2)", -6).taken("oath(1)", 0).refused("oath(2)", -1)
            .taken("pay(1, 1500, 5)", 505).refused("pay(1, 5, 5)", -4).taken("renew(1, 1500, 1)", 10)
            .refused("renew(1, 1500, 0)", -6).refused("undo(1)", -2).taken("redeem(1, 1500, 510)", 0)
            .refused("redeem(1, 1500, 1)", -6).refused("out(1, 1500, 6)", -1).refused("forfeit(1)", -5)
            .taken("claim(1)", 0).refused("claim(2)", -1).refused("drop(1)", -3).refused("prove(1)", -3)
            .taken("image()", 0).refused("back()", -2);
        at.in(LENT + "renew(1, 1500, 1)").taken("undo(1)", 10).in(LENT + "day(50)").taken("forfeit(1)", 520);
        at.in("item(0, 500) item(0, 400) lend(0, 100, 1)").taken("out(1, 1700, 1)", 500);
        at.in(FORFEIT + "bid(1, 5)").taken("bid(1, 700)", 2).refused("bid(1, 0)", -6).taken("sale(1)", 5);
        at.in(FORFEIT + "bid(1, 700) sale(1)").taken("fetch(1, 1500)", 145).refused("fetch(1, 5)", -4)
            .refused("sale(1)", -2);
        at.in(LENT + "day(40) claim(1) day(3)").taken("drop(1)", 3).taken("prove(1)", 520);
        at.in(LENT + "image()").taken("back()", 0);
    }

    /** A refused act leaves the renewing to be undone, the OATH and the image. */
    private static void refusedInARenewedTerm() {
        Edges at = says("REFUSED acts change nothing but STATUS: the renewing of today may still be undone");
        String renewed = "item(0, 500) item(0, 400) lend(0, 500, 1) oath(1) day(14) image() renew(1, 0, 2) ";
        at = at.in(renewed).taken("undo(1)", 10).tells(1, 17, 0);
        at.refused("pay(1, 1500, 0)", -6).refused("pay(1, 1500, 500)", -6).refused("pay(1, 1501, 5)", -4);
        at.refused("renew(1, 1500, 0)", -6).refused("renew(1, 1500, 13)", -6).refused("renew(1, 1501, 2)", -4);
        at.refused("redeem(1, 1500, 499)", -6).refused("redeem(1, 1501, 500)", -4);
        at.refused("out(1, 1500, 0)", -6).refused("out(1, 1501, 0)", -4).refused("out(1, 1500, 2)", -2);
        at.refused("out(1, 1500, 6)", -1).refused("forfeit(1)", -5).refused("bid(1, 5)", -2).refused("sale(1)", -2);
        at.refused("fetch(1, 1500)", -2).refused("drop(1)", -3).refused("prove(1)", -3).refused("tear(1, 2)", -6);
        at.refused("lend(0, 5, 1)", -2).refused("item(0, 5)", -2).refused("away(0)", -2).refused("box(0)", -2);
        at.refused("undo(2)", -1).refused("day(0)", -6).refused("day(7300)", -5).refused("rule(6, 201)", -6);
        at.in(renewed + "undo(1)").refused("undo(1)", -2).in(renewed + "day(1)").refused("undo(1)", -5);
    }

    private static void refusedWhileAllGoesOn() {
        Edges at = says("REFUSED acts change nothing but STATUS: bids, claims, oaths, torn halves and days stay");
        String scene = "thing(1, 1000) lend(1, 500, 1) " + "item(0, 500) item(0, 400) lend(0, 100, 2) day(50) "
            + "forfeit(1) bid(1, 600) bid(1, 700) image() oath(2) tear(2, 1) rule(0, 7) day(30) claim(2) day(20) ";
        at = at.in(scene).tells(1, 11, 700).tells(2, 8, 87, 1, 0);
        at.refused("bid(1, 0)", -6).refused("bid(1, 10000001)", -6).refused("bid(2, 5)", -2).refused("sale(2)", -2);
        at.refused("forfeit(1)", -2).refused("forfeit(2)", -3).refused("claim(2)", -3).refused("drop(1)", -3);
        at.refused("prove(1)", -3).refused("renew(2, 2700, 1)", -3).refused("renew(2, 0, 1)", -3);
        at.refused("redeem(2, 2700, 108)", -3).refused("out(2, 2700, 0)", -3).refused("pay(2, 2700, 108)", -6);
        at.refused("pay(2, 3000, 5)", -4).refused("pay(2, 0, 0)", -6).refused("tear(2, 0)", -2)
            .refused("tear(1, 2)", -6);
        at.refused("fetch(1, 1500)", -2).refused("undo(1)", -2).refused("undo(2)", -2).refused("oath(3)", -1);
        at.refused("rule(0, 201)", -6).refused("rule(14, 0)", -1).refused("second(0, 5)", -2).refused("item(1, 5)", -2);
        at.refused("thing(0, 5)", -2).refused("gold(2, NaN, 5)", -6).refused("coat(2, 5, 501)", -6);
        at.refused("rare(2, -1)", -6).refused("lend(2, 5, 1)", -2).refused("day(401)", -6).refused("day(max)", -5);
    }
}
