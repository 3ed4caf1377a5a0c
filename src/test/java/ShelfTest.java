/** Promises 1 to 11 and 29: a new object, days, rules, what comes to the places and goes from them. */
public final class ShelfTest {
    private static final Due DUE = new Due("ShelfTest");

    public static void main(String[] args) {
        newObject();
        days();
        rules();
        rulesAtFirst();
        things();
        gold();
        coats();
        rareThings();
        lots();
        boxes();
        away();
        looking();
        DUE.end();
    }

    private static void newObject() {
        PledgeHouse x = new PledgeHouse();
        for (int place = 0; place < 40; place++) {
            DUE.is("new place(" + place + ", 0)", x.place(place, 0), PledgeHouse.NONE);
        }
        for (int what = 0; what <= 12; what++) {
            DUE.is("new sum(" + what + ")", x.sum(what), 0);
            DUE.is("new as(0, " + what + ")", x.as(0, what), 0);
        }
        DUE.is("new as(1, 0)", x.as(1, 0), -1);
        DUE.is("new half()", x.half(), 0);
        DUE.is("new status()", x.status(), 0);
        DUE.is("new check()", x.check(), 0);
        DUE.is("new told(0, 0)", x.told(0, 0), -1);
        DUE.is("new told(1, 0)", x.told(1, 0), -1);
        DUE.is("new back()", x.back(), -2);
    }

    private static void days() {
        PledgeHouse x = new PledgeHouse();
        DUE.is("day(0)", x.day(0), -6);
        DUE.is("day(-1)", x.day(-1), -6);
        DUE.is("day(least int)", x.day(Integer.MIN_VALUE), -6);
        DUE.is("day(401)", x.day(401), -6);
        DUE.is("day(7300) is a day, but too many at once", x.day(7300), -6);
        DUE.is("day(7301)", x.day(7301), -5);
        DUE.is("day(most int)", x.day(Integer.MAX_VALUE), -5);
        DUE.is("status after a refused day", x.status(), -5);
        DUE.is("day(1)", x.day(1), 1);
        DUE.is("day(400)", x.day(400), 401);
        DUE.is("status after day", x.status(), 401);
        for (int i = 0; i < 17; i++) {
            x.day(400);
        }
        DUE.is("day(98)", x.day(98), 7299);
        DUE.is("day(2) behind the last", x.day(2), -5);
        DUE.is("day(1) to the last", x.day(1), 7300);
        DUE.is("day(1) behind the last", x.day(1), -5);
        DUE.is("day(0) on the last", x.day(0), -6);
    }

    private static void rules() {
        int[] least = {0, 0, 1, 1, 0, 0, 0, 0, 0, 1, 1, 1, 1, 1};
        int[] most = {200, 500, 2000, 10000, 200, 200, 200, 200, 200, 1000, 1000, 1000, 1000, 1000};
        PledgeHouse x = new PledgeHouse();
        for (int rule = 0; rule < 14; rule++) {
            DUE.is("rule(" + rule + ") below", x.rule(rule, least[rule] - 1), -6);
            DUE.is("rule(" + rule + ") least", x.rule(rule, least[rule]), 0);
            DUE.is("rule(" + rule + ") most", x.rule(rule, most[rule]), 0);
            DUE.is("rule(" + rule + ") above", x.rule(rule, most[rule] + 1), -6);
        }
        DUE.is("rule(-1)", x.rule(-1, 5), -1);
        DUE.is("rule(14)", x.rule(14, 5), -1);
        DUE.is("rule(14) with a wrong number", x.rule(14, -5), -1);
        DUE.is("rule(least int)", x.rule(Integer.MIN_VALUE, 0), -1);
    }

    private static void rulesAtFirst() {
        PledgeHouse x = new PledgeHouse();
        x.thing(0, 1000);
        x.gold(1, 100f, 1000);
        x.item(2, 1000);
        x.coat(3, 1000, 0);
        x.rare(4, 1f);
        x.second(4, 1000);
        x.second(4, 1000);
        DUE.is("gold worth by the price at first", x.place(1, 1), 4000);
        x.rule(3, 100);
        DUE.is("gold worth by a new price", x.place(1, 1), 1000);
        for (int kind = 0; kind < 5; kind++) {
            DUE.is("kind " + kind + " bears no 601", x.lend(kind, 601, 1), -6);
            DUE.is("kind " + kind + " bears 600", x.lend(kind, 600, 1), kind + 1);
            DUE.is("kind " + kind + " rate at first", x.told(kind + 1, 6), 20);
            DUE.is("kind " + kind + " interest", x.told(kind + 1, 2), 12);
            DUE.is("kind " + kind + " grace at first", x.told(kind + 1, 8), 50);
        }
        ratesAndPartsOfKinds();
    }

    private static void ratesAndPartsOfKinds() {
        PledgeHouse x = new PledgeHouse();
        for (int kind = 0; kind < 5; kind++) {
            x.rule(4 + kind, 10 * (kind + 1));
            x.rule(9 + kind, 100 * (kind + 1));
        }
        x.thing(0, 1000);
        x.gold(1, 25f, 1000);
        x.item(2, 1000);
        x.coat(3, 1000, 0);
        x.rare(4, 1f);
        x.second(4, 1000);
        x.second(4, 1000);
        for (int kind = 0; kind < 5; kind++) {
            int part = 100 * (kind + 1);
            DUE.is("kind " + kind + " above its part", x.lend(kind, part + 1, 1), -6);
            DUE.is("kind " + kind + " its part", x.lend(kind, part, 1), kind + 1);
            DUE.is("kind " + kind + " its rate", x.told(kind + 1, 6), 10 * (kind + 1));
        }
    }

    private static void things() {
        PledgeHouse x = new PledgeHouse();
        DUE.is("thing(-1, 5)", x.thing(-1, 5), -1);
        DUE.is("thing(40, 0)", x.thing(40, 0), -1);
        DUE.is("thing(0, 0)", x.thing(0, 0), -6);
        DUE.is("thing(0, 1000001)", x.thing(0, 1000001), -6);
        DUE.is("nothing came", x.place(0, 0), -1);
        DUE.is("thing(0, 1)", x.thing(0, 1), 0);
        DUE.is("thing(39, 1000000)", x.thing(39, 1000000), 0);
        DUE.is("place(0, 0)", x.place(0, 0), 0);
        DUE.is("place(0, 1)", x.place(0, 1), 1);
        DUE.is("place(39, 1)", x.place(39, 1), 1000000);
        DUE.is("thing on a thing", x.thing(0, 0), -2);
        x.box(1);
        DUE.is("thing on a box", x.thing(1, 5), -2);
    }

    private static void gold() {
        PledgeHouse x = new PledgeHouse();
        DUE.is("gold(40)", x.gold(40, -1f, 0), -1);
        DUE.is("gold weight below 0", x.gold(0, -0.001f, 500), -6);
        DUE.is("gold weight above", x.gold(0, 10000.001f, 500), -6);
        DUE.is("gold no number", x.gold(0, Float.NaN, 500), -6);
        DUE.is("gold without end", x.gold(0, Float.POSITIVE_INFINITY, 500), -6);
        DUE.is("gold below all", x.gold(0, Float.NEGATIVE_INFINITY, 500), -6);
        DUE.is("gold fineness 0", x.gold(0, 1f, 0), -6);
        DUE.is("gold fineness 1001", x.gold(0, 1f, 1001), -6);
        DUE.is("gold of no weight", x.gold(0, 0f, 1), 0);
        DUE.is("gold of no weight's worth", x.place(0, 1), 0);
        DUE.is("gold of less than nothing's zero", x.gold(1, -0f, 1), 0);
        DUE.is("gold of most weight", x.gold(2, 10000f, 1000), 1000000);
        x.rule(3, 10000);
        DUE.is("gold of most worth", x.place(2, 1), 10000000);
        x.rule(9 + 1, 1000);
        DUE.is("the most is lent", x.lend(2, 10000000, 1), 1);
        x.rule(3, 400);
        DUE.is("gold on gold", x.gold(2, -1f, 0), -2);
        goldCut(x);
    }

    private static void goldCut(PledgeHouse x) {
        DUE.is("gold 1.2345", x.gold(3, 1.2345f, 999), 123);
        float exact = 1.2345f * 100f;
        DUE.is("what is left over", x.place(3, 4), (int) ((exact - 123f) * 1000f));
        DUE.is("worth is cut", x.place(3, 1), 123L * 999 * 400 / 1000000);
        DUE.is("gold 0.29 times 100 as floats", x.gold(4, 0.29f, 1000), (int) (0.29f * 100f));
        DUE.is("gold 0.57 times 100 as floats", x.gold(5, 0.57f, 1000), (int) (0.57f * 100f));
        DUE.is("gold 1.15 times 100 as floats", x.gold(6, 1.15f, 1000), (int) (1.15f * 100f));
        DUE.is("gold 0.0099999", x.gold(7, 0.0099999f, 1000), 0);
        DUE.is("its left over", x.place(7, 4), 999);
        DUE.is("a half hundredth", x.gold(8, 0.125f, 1000), 12);
        DUE.is("its left over", x.place(8, 4), 500);
    }

    private static void coats() {
        PledgeHouse x = new PledgeHouse();
        DUE.is("coat(-1)", x.coat(-1, 0, 501), -1);
        DUE.is("coat value 0", x.coat(0, 0, 100), -6);
        DUE.is("coat value above", x.coat(0, 1000001, 100), -6);
        DUE.is("coat wear below", x.coat(0, 100, -1), -6);
        DUE.is("coat wear above", x.coat(0, 100, 501), -6);
        x.day(7);
        DUE.is("coat(0, 333, 150)", x.coat(0, 333, 150), 0);
        DUE.is("coat(1, 1000, 500)", x.coat(1, 1000, 500), 0);
        DUE.is("coat(2, 1000, 0)", x.coat(2, 1000, 0), 0);
        DUE.is("coat on a coat", x.coat(0, 0, 0), -2);
        DUE.is("coat's kind", x.place(0, 0), 3);
        x.day(359);
        DUE.is("worth ahead of 360 days", x.place(0, 1), 333);
        x.day(1);
        DUE.is("worth with 360 days, cut", x.place(0, 1), 283);
        DUE.is("half is left", x.place(1, 1), 500);
        x.day(360);
        DUE.is("worth with 720 days, cut", x.place(0, 1), 233);
        DUE.is("none is left", x.place(1, 1), 0);
        x.day(360);
        DUE.is("never below 0", x.place(1, 1), 0);
        DUE.is("without wear", x.place(2, 1), 1000);
        DUE.is("a worn one bears nothing", x.lend(1, 1, 1), -6);
    }

    private static void rareThings() {
        PledgeHouse x = new PledgeHouse();
        DUE.is("rare(40)", x.rare(40, -1f), -1);
        DUE.is("rare weight below", x.rare(0, -1f), -6);
        DUE.is("rare weight above", x.rare(0, 10001f), -6);
        DUE.is("rare no number", x.rare(0, Float.NaN), -6);
        DUE.is("rare(0, 2.505)", x.rare(0, 2.505f), (int) (2.505f * 100f));
        DUE.is("rare on a rare", x.rare(0, -1f), -2);
        DUE.is("rare's kind", x.place(0, 0), 4);
        DUE.is("rare's hundredths", x.place(0, 3), (int) (2.505f * 100f));
        x.rare(1, 0.125f);
        DUE.is("rare's left over", x.place(1, 4), 500);
        DUE.is("second(-1)", x.second(-1, 0), -1);
        DUE.is("second on nothing", x.second(2, 0), -2);
        x.thing(3, 5);
        DUE.is("second on a thing", x.second(3, 5), -2);
        x.box(4);
        DUE.is("second on a box", x.second(4, 5), -2);
        DUE.is("second value 0", x.second(0, 0), -6);
        DUE.is("second value above", x.second(0, 1000001), -6);
        DUE.is("none told", x.place(0, 6), 0);
        DUE.is("one tells", x.second(0, 100), 1);
        DUE.is("worth by one", x.place(0, 1), 0);
        DUE.is("two tell", x.second(0, 90), 2);
        DUE.is("worth by two", x.place(0, 1), 90);
        DUE.is("three tell", x.second(0, 120), 3);
        DUE.is("the latest two count", x.place(0, 1), 90);
        DUE.is("four tell", x.second(0, 130), 4);
        DUE.is("the latest two count again", x.place(0, 1), 120);
        DUE.is("hundredths stay", x.place(0, 3), (int) (2.505f * 100f));
        x.lend(0, 1, 1);
        DUE.is("second under a ticket", x.second(0, 0), -2);
    }

    private static void lots() {
        PledgeHouse x = new PledgeHouse();
        DUE.is("item(40)", x.item(40, 0), -1);
        DUE.is("item value 0", x.item(0, 0), -6);
        DUE.is("no lot began", x.place(0, 0), -1);
        DUE.is("item value above", x.item(0, 1000001), -6);
        for (int item = 0; item < 6; item++) {
            DUE.is("item " + item, x.item(0, 1000000), item);
            DUE.is("items", x.place(0, 5), item + 1);
            DUE.is("worth", x.place(0, 1), 1000000L * (item + 1));
        }
        DUE.is("six are there", x.item(0, 5), -6);
        DUE.is("lot's kind", x.place(0, 0), 2);
        DUE.is("one pledge", x.sum(11), 1);
        x.thing(1, 5);
        DUE.is("item into a thing", x.item(1, 0), -2);
        x.box(2);
        DUE.is("item into a box", x.item(2, 5), -2);
        x.item(3, 10);
        x.lend(3, 6, 1);
        DUE.is("item under a ticket", x.item(3, 0), -2);
    }

    private static void boxes() {
        PledgeHouse x = new PledgeHouse();
        DUE.is("box(-1)", x.box(-1), -1);
        DUE.is("box(40)", x.box(40), -1);
        DUE.is("box comes", x.box(0), 1);
        DUE.is("box is there", x.place(0, 0), 5);
        DUE.is("box's worth", x.place(0, 1), 0);
        DUE.is("a box is no pledge", x.sum(11), 0);
        DUE.is("away with a box", x.away(0), -2);
        DUE.is("lend on a box", x.lend(0, 1, 1), -2);
        DUE.is("gold on a box", x.gold(0, 1f, 1), -2);
        DUE.is("coat on a box", x.coat(0, 1, 1), -2);
        DUE.is("rare on a box", x.rare(0, 1f), -2);
        DUE.is("box goes", x.box(0), 0);
        DUE.is("nothing there", x.place(0, 0), -1);
        DUE.is("then a thing comes", x.thing(0, 5), 0);
        DUE.is("box on a thing", x.box(0), -2);
    }

    private static void away() {
        PledgeHouse x = new PledgeHouse();
        DUE.is("away(-1)", x.away(-1), -1);
        DUE.is("away(40)", x.away(40), -1);
        DUE.is("away of nothing", x.away(0), -2);
        x.thing(0, 10);
        DUE.is("away", x.away(0), 0);
        DUE.is("gone", x.place(0, 0), -1);
        DUE.is("no pledge", x.sum(11), 0);
        x.thing(0, 10);
        x.lend(0, 5, 1);
        DUE.is("away under a ticket", x.away(0), -2);
        DUE.is("still there", x.sum(11), 1);
    }

    private static void looking() {
        PledgeHouse x = new PledgeHouse();
        x.thing(0, 10);
        x.gold(1, 1.125f, 1000);
        DUE.is("place(0, -1)", x.place(0, -1), -1);
        DUE.is("place(0, 7)", x.place(0, 7), -1);
        DUE.is("place(-1, 0)", x.place(-1, 0), -1);
        DUE.is("place(40, 1)", x.place(40, 1), -1);
        for (int what = 2; what <= 6; what++) {
            DUE.is("a thing's place(0, " + what + ")", x.place(0, what), 0);
            DUE.is("nothing's place(9, " + what + ")", x.place(9, what), 0);
        }
        DUE.is("nothing's worth", x.place(9, 1), 0);
        DUE.is("gold's hundredths", x.place(1, 3), 112);
        DUE.is("gold's left over", x.place(1, 4), 500);
        DUE.is("gold's items", x.place(1, 5), 0);
        DUE.is("gold's tellers", x.place(1, 6), 0);
        x.lend(0, 6, 1);
        DUE.is("the ticket on it", x.place(0, 2), 1);
        x.redeem(1, 1042, 7);
        DUE.is("redeemed", x.told(1, 0), 1);
        DUE.is("no ticket on it", x.place(0, 2), 0);
    }
}
