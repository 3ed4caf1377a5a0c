/** The edges of term 1 and of promises 1 to 11 and 29: days, rules, what comes to the places and goes. */
public final class ShelfEdgesTest {
    private static final Due DUE = new Due("ShelfEdgesTest");
    private static final String[] PLEDGES = {
        "thing(0, 1000) ", "gold(0, 25, 1000) ", "item(0, 1000) ", "coat(0, 1000, 0) ",
        "rare(0, 1) second(0, 1000) second(0, 1000) "};
    private static final String[] NO_PLACES = {"-1", "40", "min", "max"};

    public static void main(String[] args) {
        promise1NewObject();
        promise1RulesAtFirst();
        promise2Day();
        promise3Rule();
        promise3RulesFromNowOn();
        promise4Thing();
        promise5GoldWeight();
        promise5GoldWorth();
        promise6Coat();
        promise6Wear();
        promise7Rare();
        promise8Second();
        promise8LowerOne();
        promise9Item();
        promise9SixItems();
        promise10Box();
        promise11Away();
        thingsThatComeNeedNothingThere();
        promise29Place();
        promise29WhatIsThere();
        DUE.end();
    }

    private static Edges says(String sentence) {
        return Edges.of(DUE, sentence);
    }

    private static void promise1NewObject() {
        Edges at = says("DAY 0, nothing on the shelves, no tickets, RULES as at first");
        at.taken("day(1)", 1).looks("as(0, 0)", 0).looks("as(1, 0)", -1);
        for (int place = 0; place < 40; place++) {
            at.looks("place(" + place + ", 0)", -1);
        }
        at.looks("told(0, 0)", -1).looks("told(1, 0)", -1).looks("half()", 0).looks("status()", 0);
        at.sums(0, 0, 0, 0, 0, 0, 0, 0, 0, 0, 0, 0, 0, 0);
        at.refused("back()", -2);
    }

    private static void promise1RulesAtFirst() {
        for (int kind = 0; kind < 5; kind++) {
            says("RATE of kind k (20), PART of kind k (600)").in(PLEDGES[kind])
                .looks("place(0, 1)", 1000).refused("lend(0, 601, 1)", -6).taken("lend(0, 600, 1)", 1)
                .in(PLEDGES[kind] + "lend(0, 600, 1)").tells(1, 6, 20);
        }
        says("grace in days (20)").in("thing(0, 1000) lend(0, 500, 1) day(49)").refused("forfeit(1)", -5)
            .in("thing(0, 1000) lend(0, 500, 1) day(50)").taken("forfeit(1)", 520);
        String sold = "thing(0, 1000) lend(0, 500, 1) day(50) forfeit(1) bid(1, 1000) sale(1) ";
        says("costs of a sale in thousandths (50)").in(sold).sums(3, 50);
        says("days that an over is kept (700)").in(sold + Edges.days(700)).taken("fetch(1, 1500)", 430)
            .in(sold + Edges.days(701)).refused("fetch(1, 1500)", -5);
        says("price of a hundredth of fine gold in thousandths of a coin (400)")
            .in("gold(0, 0.25, 1000)").looks("place(0, 1)", 10);
    }

    private static void promise2Day() {
        says("The DAY is n more (1 .. 400; -5, -6)")
            .refused("day(0)", -6).refused("day(-1)", -6).refused("day(min)", -6)
            .taken("day(1)", 1).taken("day(400)", 400).refused("day(401)", -6)
            .in("day(7)").taken("day(1)", 8).taken("day(400)", 407).refused("day(401)", -6);
        says("DAYS are 0 at first, 7,300 at most; -5 .. above 7,300")
            .refused("day(7300)", -6).refused("day(7301)", -5).refused("day(max)", -5)
            .in(Edges.days(6899)).refused("day(401)", -6).refused("day(402)", -5).taken("day(400)", 7299)
            .in(Edges.days(6900)).taken("day(400)", 7300).refused("day(401)", -5)
            .in(Edges.days(7299)).taken("day(1)", 7300).refused("day(2)", -5).refused("day(0)", -6)
            .in(Edges.days(7300)).refused("day(1)", -5).refused("day(400)", -5).refused("day(max)", -5)
            .refused("day(0)", -6).refused("day(-1)", -6).refused("day(min)", -6);
    }

    private static void promise3Rule() {
        int[] least = {0, 0, 1, 1, 0, 0, 0, 0, 0, 1, 1, 1, 1, 1};
        int[] most = {200, 500, 2000, 10000, 200, 200, 200, 200, 200, 1000, 1000, 1000, 1000, 1000};
        Edges at = says(
            "grace 0 .. 200, costs 0 .. 500, kept 1 .. 2,000, price 1 .. 10,000, RATE 0 .. 200, PART 1 .. 1,000");
        for (int rule = 0; rule < 14; rule++) {
            String call = "rule(" + rule + ", ";
            at.refused(call + (least[rule] - 1) + ")", -6).taken(call + least[rule] + ")", 0)
                .taken(call + most[rule] + ")", 0).refused(call + (most[rule] + 1) + ")", -6)
                .refused(call + "min)", -6).refused(call + "max)", -6);
        }
        Edges none = says("-1 there is no such rule, kind");
        for (String rule : new String[] {"-1", "14", "min", "max"}) {
            none.refused("rule(" + rule + ", 1)", -1).refused("rule(" + rule + ", -1)", -1);
        }
    }

    private static void promise3RulesFromNowOn() {
        Edges at = says("A RULE is v from now on");
        String lent = "thing(0, 1000) lend(0, 500, 1) ";
        at.in(lent + "rule(0, 0) day(29)").refused("forfeit(1)", -5);
        at.in(lent + "rule(0, 0) day(30)").taken("forfeit(1)", 520);
        at.in(lent + "rule(0, 200) day(229)").refused("forfeit(1)", -5);
        at.in(lent + "rule(0, 200) day(230)").taken("forfeit(1)", 580);
        String bid = lent + "day(50) forfeit(1) bid(1, 2001) ";
        at.in(bid + "rule(1, 0) sale(1)").sums(3, 0, 1481);
        at.in(bid + "rule(1, 1) sale(1)").sums(3, 3, 1478);
        at.in(bid + "rule(1, 500) sale(1)").sums(3, 1001, 480);
        at.in(bid + "rule(2, 1) sale(1) day(1)").taken("fetch(1, 1500)", 1380);
        at.in(bid + "rule(2, 1) sale(1) day(2)").refused("fetch(1, 1500)", -5);
        at.in(bid + "rule(2, 2000) sale(1) " + Edges.days(2000)).taken("fetch(1, 1500)", 1380);
        at.in(bid + "rule(2, 2000) sale(1) " + Edges.days(2001)).refused("fetch(1, 1500)", -5);
        at.in("gold(0, 10000, 1000) rule(3, 1)").looks("place(0, 1)", 1000);
        at.in("gold(0, 10000, 1000) rule(3, 10000)").looks("place(0, 1)", 10000000);
        for (int kind = 0; kind < 5; kind++) {
            String rate = "rule(" + (4 + kind) + ", ";
            String part = "rule(" + (9 + kind) + ", ";
            at.in(PLEDGES[kind] + rate + "0) lend(0, 500, 1)").tells(1, 2, 0).tells(1, 6, 0);
            at.in(PLEDGES[kind] + rate + "200) lend(0, 500, 1)").tells(1, 2, 100).tells(1, 6, 200);
            at.in(PLEDGES[kind] + part + "1)").taken("lend(0, 1, 1)", 1).refused("lend(0, 2, 1)", -6);
            at.in(PLEDGES[kind] + part + "1000)").taken("lend(0, 1000, 1)", 1).refused("lend(0, 1001, 1)", -6);
        }
    }

    private static void promise4Thing() {
        Edges at = says("Values are 1 .. 1,000,000");
        at.refused("thing(0, 0)", -6).refused("thing(0, -1)", -6).refused("thing(0, min)", -6);
        at.taken("thing(0, 1)", 0).taken("thing(0, 1000000)", 0);
        at.refused("thing(0, 1000001)", -6).refused("thing(0, max)", -6);
        at.in("thing(0, 1)").looks("place(0, 1)", 1).in("thing(0, 1000000)").looks("place(0, 1)", 1000000);
        Edges places = says("PLACES are 0 .. 39");
        places.taken("thing(0, 5)", 0).taken("thing(39, 5)", 0);
        for (String place : NO_PLACES) {
            places.refused("thing(" + place + ", 5)", -1).refused("thing(" + place + ", 0)", -1);
        }
    }

    private static void promise5GoldWeight() {
        Edges at = says(
            "its weight (a float, 0 .. 10,000); -6 (weight below 0 or above 10,000, or no number; fineness)");
        at.refused("gold(0, -1.4E-45, 500)", -6).refused("gold(0, -1, 500)", -6);
        at.refused("gold(0, -Infinity, 500)", -6).refused("gold(0, -3.4028235E38, 500)", -6);
        at.taken("gold(0, -0.0, 500)", 0).taken("gold(0, 0, 500)", 0).taken("gold(0, 1.4E-45, 500)", 0);
        at.taken("gold(0, 9999.999, 500)", 999999).taken("gold(0, 10000, 500)", 1000000);
        at.refused("gold(0, 10000.001, 500)", -6).refused("gold(0, 3.4028235E38, 500)", -6);
        at.refused("gold(0, Infinity, 500)", -6).refused("gold(0, NaN, 500)", -6);
        Edges fineness = says("fineness (1 .. 1,000)");
        fineness.refused("gold(0, 1, 0)", -6).taken("gold(0, 1, 1)", 100);
        fineness.taken("gold(0, 1, 1000)", 100).refused("gold(0, 1, 1001)", -6);
        fineness.refused("gold(0, 1, min)", -6).refused("gold(0, 1, max)", -6);
        for (String place : NO_PLACES) {
            says("-1 there is no such PLACE").refused("gold(" + place + ", 1, 500)", -1)
                .refused("gold(" + place + ", NaN, 0)", -1);
        }
        says("PLACES are 0 .. 39").taken("gold(39, 1, 500)", 100);
        cutToHundredths("gold", ", 500)");
    }

    private static void cutToHundredths(String call, String rest) {
        String[] weights = {"0.009999999", "0.01", "0.29", "1.15", "20.05", "9999.999", "5000.01", "1.005", "0.00999"};
        int[] hundredths = {0, 1, 29, 115, 2004, 999999, 500000, 100, 0};
        int[] leftOver = {999, 0, 0, 0, 999, 875, 968, 500, 999};
        for (int i = 0; i < weights.length; i++) {
            String act = call + "(0, " + weights[i] + rest;
            says("times 100, as floats are multiplied, cut to a whole number of HUNDREDTHS").taken(act, hundredths[i])
                .in(act).looks("place(0, 3)", hundredths[i]);
            says("what is left over: the part behind the point, times 1,000 as floats, cut").in(act)
                .looks("place(0, 4)", leftOver[i]);
        }
    }

    private static void promise5GoldWorth() {
        Edges at = says("times fineness, times the price, by 1,000,000; WORTH, in whole coins, cut");
        at.in("gold(0, 0.02, 1000)").looks("place(0, 1)", 0).refused("lend(0, 1, 1)", -6);
        at.in("gold(0, 0.03, 1000)").looks("place(0, 1)", 1).refused("lend(0, 1, 1)", -6);
        at.in("gold(0, 0.05, 1000)").looks("place(0, 1)", 2).taken("lend(0, 1, 1)", 1).refused("lend(0, 2, 1)", -6);
        at.in("gold(0, 25, 999)").looks("place(0, 1)", 999);
        at.in("gold(0, 24.99, 1000)").looks("place(0, 1)", 999);
        at.in("gold(0, 10000, 1)").looks("place(0, 1)", 400);
        at.in("gold(0, 24.99, 1)").looks("place(0, 1)", 0).in("gold(0, 25, 1)").looks("place(0, 1)", 1);
        at.in("rule(3, 10000) gold(0, 10000, 1000) rule(10, 1000)").looks("place(0, 1)", 10000000)
            .taken("lend(0, 10000000, 1)", 1).refused("lend(0, 10000001, 1)", -6).refused("lend(0, max, 1)", -6);
    }

    private static void promise6Coat() {
        Edges at = says("A COAT comes: 0. -1, -2, -6 (value; wear not 0 .. 500)");
        at.refused("coat(0, 0, 100)", -6).taken("coat(0, 1, 100)", 0);
        at.taken("coat(0, 1000000, 100)", 0).refused("coat(0, 1000001, 100)", -6);
        at.refused("coat(0, min, 100)", -6).refused("coat(0, max, 100)", -6);
        at.refused("coat(0, 100, -1)", -6).taken("coat(0, 100, 0)", 0);
        at.taken("coat(0, 100, 500)", 0).refused("coat(0, 100, 501)", -6);
        at.refused("coat(0, 100, min)", -6).refused("coat(0, 100, max)", -6);
        at.taken("coat(39, 100, 100)", 0);
        for (String place : NO_PLACES) {
            at.refused("coat(" + place + ", 100, 100)", -1).refused("coat(" + place + ", 0, 501)", -1);
        }
    }

    private static void promise6Wear() {
        Edges at = says("1,000 less the wear, for each full 360 days since it came");
        at.in("coat(0, 1000, 150) day(359)").looks("place(0, 1)", 1000);
        at.in("coat(0, 1000, 150) day(360)").looks("place(0, 1)", 850);
        at.in("coat(0, 1000, 150) " + Edges.days(719)).looks("place(0, 1)", 850);
        at.in("coat(0, 1000, 150) " + Edges.days(720)).looks("place(0, 1)", 700);
        at.in("day(7) coat(0, 1000, 150) day(359)").looks("place(0, 1)", 1000);
        at.in("day(7) coat(0, 1000, 150) day(360)").looks("place(0, 1)", 850);
        at.in("day(359) coat(0, 1000, 150) day(1)").looks("place(0, 1)", 1000);
        at.in("coat(0, 1000, 0) " + Edges.days(7300)).looks("place(0, 1)", 1000);
        Edges cut = says("by 1,000, cut");
        cut.in("coat(0, 1, 1) day(360)").looks("place(0, 1)", 0);
        cut.in("coat(0, 333, 150) day(360)").looks("place(0, 1)", 283);
        cut.in("coat(0, 1000000, 333) " + Edges.days(1080)).looks("place(0, 1)", 1000);
        cut.in("coat(0, 1000, 333) " + Edges.days(1080)).looks("place(0, 1)", 1);
        cut.in("coat(0, 999, 333) " + Edges.days(1080)).looks("place(0, 1)", 0);
        Edges least = says("(0 at least)");
        least.in("coat(0, 1000, 500) " + Edges.days(719)).looks("place(0, 1)", 500).taken("lend(0, 300, 1)", 1);
        least.in("coat(0, 1000, 500) " + Edges.days(720)).looks("place(0, 1)", 0).refused("lend(0, 1, 1)", -6);
        least.in("coat(0, 1000, 334) " + Edges.days(1080)).looks("place(0, 1)", 0);
        least.in("coat(0, 1000000, 500) " + Edges.days(7300)).looks("place(0, 1)", 0).refused("lend(0, 1, 1)", -6);
    }

    private static void promise7Rare() {
        Edges at = says("A RARE thing comes, GOLD of this weight: its HUNDREDTHS. -1, -2, -6");
        at.refused("rare(0, -1.4E-45)", -6).refused("rare(0, -Infinity)", -6);
        at.taken("rare(0, -0.0)", 0).taken("rare(0, 0)", 0);
        at.taken("rare(0, 10000)", 1000000).refused("rare(0, 10000.001)", -6);
        at.refused("rare(0, Infinity)", -6).refused("rare(0, NaN)", -6).taken("rare(39, 1)", 100);
        for (String place : NO_PLACES) {
            at.refused("rare(" + place + ", 1)", -1).refused("rare(" + place + ", NaN)", -1);
        }
        cutToHundredths("rare", ")");
    }

    private static void promise8Second() {
        Edges at = says("One tells a value of a RARE thing: how many did. -6");
        at = at.in("rare(0, 1)");
        at.refused("second(0, 0)", -6).refused("second(0, min)", -6).taken("second(0, 1)", 1);
        at.taken("second(0, 1000000)", 1).refused("second(0, 1000001)", -6).refused("second(0, max)", -6);
        for (String place : NO_PLACES) {
            at.refused("second(" + place + ", 5)", -1).refused("second(" + place + ", 0)", -1);
        }
        says("PLACES are 0 .. 39").in("rare(39, 1)").taken("second(39, 5)", 1).in("rare(39, 1) second(39, 5)")
            .looks("place(39, 6)", 1);
        Edges other = says("-2 (no RARE thing there, or under a ticket)");
        other.refused("second(0, 5)", -2).refused("second(0, 0)", -2);
        other.in("box(0)").refused("second(0, 5)", -2);
        for (int kind = 0; kind < 4; kind++) {
            other.in(PLEDGES[kind]).refused("second(0, 5)", -2).refused("second(0, 0)", -2);
        }
        other.in(PLEDGES[4]).taken("second(0, 5)", 3);
        other.in(PLEDGES[4] + "lend(0, 500, 1)").refused("second(0, 5)", -2).refused("second(0, 0)", -2);
        other.in(PLEDGES[4] + "lend(0, 500, 1) redeem(1, 1500, 510)").refused("second(0, 5)", -2);
    }

    private static void promise8LowerOne() {
        Edges at = says("RARE: the lower one of the values that two told; 0 ahead of that");
        at.in("rare(0, 1)").looks("place(0, 1)", 0).refused("lend(0, 1, 1)", -6);
        at.in("rare(0, 1) second(0, 90)").looks("place(0, 1)", 0).refused("lend(0, 1, 1)", -6);
        at.in("rare(0, 1) second(0, 90) second(0, 100)").looks("place(0, 1)", 90).taken("lend(0, 54, 1)", 1);
        at.in("rare(0, 1) second(0, 100) second(0, 90)").looks("place(0, 1)", 90).refused("lend(0, 55, 1)", -6);
        at.in("rare(0, 1) second(0, 90) second(0, 90)").looks("place(0, 1)", 90);
        Edges third = says("the third one and later: the latest two count")
            .in("rare(0, 1) second(0, 50) second(0, 90)");
        third.taken("second(0, 80)", 3);
        third.in("rare(0, 1) second(0, 50) second(0, 90) second(0, 80)").looks("place(0, 1)", 80)
            .looks("place(0, 6)", 3).taken("second(0, 70)", 4);
        third.in("rare(0, 1) second(0, 90) second(0, 50) second(0, 95)").looks("place(0, 1)", 50);
        third.in("rare(0, 1) second(0, 50) second(0, 90) second(0, 80) second(0, 95)").looks("place(0, 1)", 80);
    }

    private static void promise9Item() {
        Edges at = says("An item comes into a LOT; where nothing is, a LOT begins with it. -6 (value)");
        at.refused("item(0, 0)", -6).refused("item(0, min)", -6).taken("item(0, 1)", 0);
        at.taken("item(0, 1000000)", 0).refused("item(0, 1000001)", -6).refused("item(0, max)", -6);
        at.taken("item(39, 5)", 0);
        at.in("item(0, 5)").refused("item(0, 0)", -6).taken("item(0, 1)", 1).taken("item(0, 1000000)", 1)
            .refused("item(0, 1000001)", -6).taken("item(1, 5)", 0);
        for (String place : NO_PLACES) {
            at.refused("item(" + place + ", 5)", -1).refused("item(" + place + ", 0)", -1);
        }
        Edges other = says("-2 (something else, under a ticket)");
        other.in("box(0)").refused("item(0, 5)", -2).refused("item(0, 0)", -2);
        for (int kind = 0; kind < 5; kind++) {
            if (kind != 2) {
                other.in(PLEDGES[kind]).refused("item(0, 5)", -2).refused("item(0, 0)", -2);
            }
            other.in(PLEDGES[kind] + "lend(0, 500, 1)").refused("item(0, 5)", -2).refused("item(0, 0)", -2);
            other.in(PLEDGES[kind] + "lend(0, 500, 1) redeem(1, 1500, 510)").taken("item(0, 5)", 0);
        }
    }

    private static void promise9SixItems() {
        Edges at = says("the item's number (0 .. 5, by their coming); -6 (six are there)");
        String lot = "";
        for (int item = 0; item < 6; item++) {
            at.in(lot).taken("item(0, 1000000)", item);
            lot += "item(0, 1000000) ";
            at.in(lot).looks("place(0, 5)", item + 1).looks("place(0, 1)", 1000000L * (item + 1)).sums(11, 1);
        }
        at.in(lot).refused("item(0, 5)", -6).refused("item(0, 0)", -6).taken("item(1, 5)", 0)
            .taken("lend(0, 3600000, 1)", 1).refused("lend(0, 3600001, 1)", -6);
        at.in(lot + "lend(0, 1, 1)").refused("item(0, 5)", -2);
        at.in(lot + "lend(0, 1, 1) out(1, h1, 3)").refused("item(0, 5)", -2);
        at.in(lot + "away(0)").taken("item(0, 5)", 0);
    }

    private static void promise10Box() {
        Edges at = says("An empty BOX comes where nothing is, or goes where one is: 1, 0. -1, -2");
        at.taken("box(0)", 1).taken("box(39)", 1).in("box(0)").taken("box(0)", 0).taken("box(1)", 1);
        at.in("box(0)").looks("place(0, 0)", 5).looks("place(1, 0)", -1).sums(11, 0);
        at.in("box(0) box(0)").looks("place(0, 0)", -1).taken("box(0)", 1).taken("thing(0, 5)", 0);
        for (String place : NO_PLACES) {
            at.refused("box(" + place + ")", -1);
        }
        for (String pledge : PLEDGES) {
            at.in(pledge).refused("box(0)", -2).in(pledge + "lend(0, 500, 1)").refused("box(0)", -2);
            at.in(pledge + "away(0)").taken("box(0)", 1);
            at.in(pledge + "lend(0, 500, 1) redeem(1, 1500, 510)").taken("box(0)", 1);
        }
    }

    private static void promise11Away() {
        Edges at = says("Who brought a pledge that is not under a ticket takes it away: 0. -1, -2");
        at.refused("away(0)", -2).in("box(0)").refused("away(0)", -2);
        for (String place : NO_PLACES) {
            at.refused("away(" + place + ")", -1);
        }
        at.in("thing(39, 5)").taken("away(39)", 0).refused("away(0)", -2);
        for (String pledge : PLEDGES) {
            at.in(pledge).sums(11, 1).taken("away(0)", 0);
            at.in(pledge + "away(0)").looks("place(0, 0)", -1).looks("place(0, 1)", 0).sums(11, 0)
                .refused("away(0)", -2);
            at.in(pledge + "lend(0, 500, 1)").refused("away(0)", -2);
            at.in(pledge + "lend(0, 500, 1) redeem(1, 1500, 510)").refused("away(0)", -2);
        }
    }

    private static void thingsThatComeNeedNothingThere() {
        Edges at = says("-2 a PLACE not of nothing (of things that come), ahead of -6");
        String[] comings = {"thing(0, 5)", "gold(0, 1, 500)", "coat(0, 5, 5)", "rare(0, 1)"};
        String[] wrong = {"thing(0, 0)", "gold(0, NaN, 0)", "coat(0, 0, 501)", "rare(0, NaN)"};
        for (int i = 0; i < comings.length; i++) {
            at.in("box(0)").refused(comings[i], -2).refused(wrong[i], -2);
            for (String pledge : PLEDGES) {
                at.in(pledge).refused(comings[i], -2).refused(wrong[i], -2);
                at.in(pledge + "lend(0, 500, 1)").refused(comings[i], -2).refused(wrong[i], -2);
                at.in(pledge + "lend(0, 500, 1) redeem(1, 1500, 510)").refused(wrong[i], -6);
            }
        }
        at.in("thing(0, 5) away(0)").taken("thing(0, 5)", 0).taken("gold(0, 1, 500)", 100)
            .taken("coat(0, 5, 5)", 0).taken("rare(0, 1)", 100);
    }

    private static void promise29Place() {
        Edges at = says("NONE for another what, or no such PLACE").in("thing(0, 10) thing(39, 11)");
        at.looks("place(0, -1)", -1).looks("place(0, 0)", 0).looks("place(0, 6)", 0).looks("place(0, 7)", -1);
        at.looks("place(0, min)", -1).looks("place(0, max)", -1);
        at.looks("place(39, 1)", 11).looks("place(38, 1)", 0).looks("place(38, 7)", -1).looks("place(38, -1)", -1);
        for (String place : NO_PLACES) {
            for (int what = -1; what <= 7; what++) {
                at.looks("place(" + place + ", " + what + ")", -1);
            }
        }
    }

    private static void promise29WhatIsThere() {
        Edges at = says("0 what is there: NONE nothing, 5 a BOX, else its KIND; .. 0 for others");
        places(at.in("day(1)"), -1, 0, 0, 0, 0, 0, 0);
        places(at.in("box(0)"), 5, 0, 0, 0, 0, 0, 0);
        places(at.in("thing(0, 1000)"), 0, 1000, 0, 0, 0, 0, 0);
        places(at.in("gold(0, 1.005, 1000)"), 1, 40, 0, 100, 500, 0, 0);
        places(at.in("item(0, 10) item(0, 20)"), 2, 30, 0, 0, 0, 2, 0);
        places(at.in("coat(0, 1000, 100)"), 3, 1000, 0, 0, 0, 0, 0);
        places(at.in("rare(0, 1.005) second(0, 30) second(0, 20) second(0, 50)"), 4, 20, 0, 100, 500, 0, 3);
        places(at.in("thing(1, 10) lend(1, 1, 1) " + PLEDGES[1] + "lend(0, 600, 1)"), 1, 1000, 2, 2500, 0, 0, 0);
        places(at.in("item(0, 10) item(0, 20) lend(0, 5, 1) out(1, 1035, 0)"), 2, 20, 1, 0, 0, 1, 0);
        places(at.in("thing(0, 1000) lend(0, 500, 1) redeem(1, 1500, 510)"), -1, 0, 0, 0, 0, 0, 0);
        places(at.in("thing(0, 1000) lend(0, 500, 1) redeem(1, 1500, 510) thing(0, 5)"), 0, 5, 0, 0, 0, 0, 0);
    }

    private static void places(Edges at, long... due) {
        for (int what = 0; what < due.length; what++) {
            at.looks("place(0, " + what + ")", due[what]);
        }
    }
}
