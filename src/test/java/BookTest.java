/** Promises 27, 28 and 32 to 35: image, back, sums of any day, check, status. */
public final class BookTest {
    private static final Due DUE = new Due("BookTest");

    public static void main(String[] args) {
        sums();
        booksOfAnyDay();
        oversInTheBooks();
        imageAndBack();
        backOnTheSameDay();
        booksAfterBack();
        statuses();
        refusedActsChangeNothing();
        DUE.end();
    }

    private static void sums() {
        PledgeHouse x = new PledgeHouse();
        x.thing(0, 10000);
        x.thing(1, 10000);
        x.thing(2, 10000);
        x.lend(0, 1000, 1);
        x.lend(1, 2000, 1);
        long[] due = {3000, 0, 0, 0, 0, 0, 0, 0, 3000, 60, 2, 3, 2};
        all(x, "lent", due);
        x.redeem(2, 2000, 2040);
        due = new long[] {3000, 40, 2000, 0, 0, 0, 0, 0, 1000, 20, 1, 2, 2};
        all(x, "redeemed", due);
        DUE.is("sum(-1)", x.sum(-1), -1);
        DUE.is("sum(13)", x.sum(13), -1);
        DUE.is("as(0, -1)", x.as(0, -1), -1);
        DUE.is("as(0, 13)", x.as(0, 13), -1);
        DUE.is("as(-1, 0)", x.as(-1, 0), -1);
        DUE.is("as(1, 0)", x.as(1, 0), -1);
        DUE.is("check", x.check(), 0);
    }

    private static void all(PledgeHouse x, String when, long[] due) {
        for (int what = 0; what < due.length; what++) {
            DUE.is(when + " sum(" + what + ")", x.sum(what), due[what]);
        }
    }

    private static void books(PledgeHouse x, int day, long[] due) {
        for (int what = 0; what < due.length; what++) {
            DUE.is("as(" + day + ", " + what + ")", x.as(day, what), due[what]);
        }
    }

    private static void booksOfAnyDay() {
        PledgeHouse x = new PledgeHouse();
        x.day(5);
        x.thing(0, 10000);
        x.thing(1, 10000);
        x.lend(0, 1000, 1);
        x.day(70);
        x.renew(1, 1065, 2);
        x.day(100);
        x.away(1);
        x.claim(1);
        x.day(1);
        x.prove(1);
        x.day(400);
        books(x, 0, new long[13]);
        books(x, 4, new long[13]);
        books(x, 5, new long[] {1000, 0, 0, 0, 0, 0, 0, 0, 1000, 20, 1, 2, 1});
        books(x, 34, new long[] {1000, 0, 0, 0, 0, 0, 0, 0, 1000, 20, 1, 2, 1});
        books(x, 35, new long[] {1000, 0, 0, 0, 0, 0, 0, 0, 1000, 40, 1, 2, 1});
        books(x, 74, new long[] {1000, 0, 0, 0, 0, 0, 0, 0, 1000, 60, 1, 2, 1});
        books(x, 75, new long[] {1000, 60, 0, 0, 0, 0, 0, 0, 1000, 0, 1, 2, 1});
        books(x, 94, new long[] {1000, 60, 0, 0, 0, 0, 0, 0, 1000, 0, 1, 2, 1});
        books(x, 95, new long[] {1000, 60, 0, 0, 0, 0, 0, 0, 1000, 20, 1, 2, 1});
        books(x, 174, new long[] {1000, 60, 0, 0, 0, 0, 0, 0, 1000, 60, 1, 2, 1});
        books(x, 175, new long[] {1000, 60, 0, 0, 0, 0, 0, 0, 1000, 60, 1, 1, 1});
        books(x, 176, new long[] {1000, 60, 0, 0, 0, 0, 0, 1060, 0, 0, 0, 0, 1});
        books(x, 576, new long[] {1000, 60, 0, 0, 0, 0, 0, 1060, 0, 0, 0, 0, 1});
    }

    private static void oversInTheBooks() {
        PledgeHouse x = new PledgeHouse();
        x.rule(2, 10);
        for (int n = 0; n < 2; n++) {
            x.thing(n, 10000);
            x.lend(n, 1000, 1);
        }
        x.day(50);
        for (int n = 1; n <= 2; n++) {
            x.forfeit(n);
            x.bid(n, 2000);
            x.sale(n);
        }
        x.day(10);
        x.fetch(1, 1000);
        x.day(90);
        books(x, 49, new long[] {2000, 0, 0, 0, 0, 0, 0, 0, 2000, 80, 2, 2, 2});
        books(x, 50, new long[] {2000, 80, 2000, 200, 1720, 0, 0, 0, 0, 0, 0, 0, 2});
        books(x, 59, new long[] {2000, 80, 2000, 200, 1720, 0, 0, 0, 0, 0, 0, 0, 2});
        books(x, 60, new long[] {2000, 80, 2000, 200, 860, 860, 0, 0, 0, 0, 0, 0, 2});
        books(x, 61, new long[] {2000, 80, 2000, 200, 0, 860, 860, 0, 0, 0, 0, 0, 2});
        books(x, 150, new long[] {2000, 80, 2000, 200, 0, 860, 860, 0, 0, 0, 0, 0, 2});
    }

    private static void imageAndBack() {
        PledgeHouse x = new PledgeHouse();
        DUE.is("nothing is kept", x.back(), -2);
        DUE.is("its status", x.status(), -2);
        x.item(0, 100);
        x.rare(1, 1f);
        x.second(1, 10);
        x.thing(2, 1000);
        x.lend(2, 500, 2);
        x.box(3);
        x.rule(0, 7);
        DUE.is("image", x.image(), 0);
        x.item(0, 50);
        x.second(1, 20);
        x.pay(1, 1500, 100);
        x.tear(1, 0);
        x.oath(1);
        x.claim(1);
        x.box(3);
        x.rule(0, 9);
        x.day(300);
        x.thing(4, 10);
        x.lend(4, 6, 1);
        DUE.is("back", x.back(), 0);
        asKept(x);
        x.renew(1, 1500, 5);
        x.redeem(1, 1500, 500);
        DUE.is("that stays kept", x.back(), 0);
        asKept(x);
        x.day(3);
        x.away(0);
        x.image();
        x.day(4);
        x.back();
        DUE.is("instead of what was kept before", x.day(1), 4);
        DUE.is("instead of what was there", x.place(0, 0), -1);
    }

    private static void asKept(PledgeHouse x) {
        DUE.is("status of back", x.status(), 0);
        DUE.is("items", x.place(0, 5), 1);
        DUE.is("tellers", x.place(1, 6), 1);
        DUE.is("worth", x.place(1, 1), 0);
        DUE.is("box", x.place(3, 0), 5);
        DUE.is("nothing", x.place(4, 0), -1);
        DUE.is("ticket on it", x.place(2, 2), 1);
        int[] told = {0, 500, 10, 1, 0, 2, 20, 0, 67, 0, 0, 0, 0, 0, 2, 1, 1500, -1};
        for (int what = 0; what < told.length; what++) {
            DUE.is("kept told(1, " + what + ")", x.told(1, what), told[what]);
        }
        DUE.is("no second ticket", x.told(2, 0), -1);
        DUE.is("half", x.half(), 1500);
        all(x, "kept", new long[] {500, 0, 0, 0, 0, 0, 0, 0, 500, 10, 1, 3, 1});
        DUE.is("today", x.as(1, 0), -1);
        DUE.is("check", x.check(), 0);
    }

    private static void backOnTheSameDay() {
        PledgeHouse x = new PledgeHouse();
        x.thing(0, 1000);
        x.lend(0, 500, 1);
        x.day(10);
        x.pay(1, 1500, 10);
        x.image();
        x.pay(1, 1500, 100);
        x.away(5);
        x.thing(5, 10);
        x.back();
        DUE.is("paid", x.sum(2), 0);
        DUE.is("pledges", x.sum(11), 1);
        x.day(1);
        DUE.is("paid on that day", x.as(10, 2), 0);
        DUE.is("pledges on that day", x.as(10, 11), 1);
        DUE.is("interest of the day ahead", x.as(9, 9), 10);
    }

    private static void booksAfterBack() {
        PledgeHouse x = new PledgeHouse();
        x.thing(0, 1000);
        x.lend(0, 500, 1);
        x.day(40);
        x.image();
        x.day(40);
        x.redeem(1, 1500, 530);
        x.back();
        DUE.is("no such day", x.as(41, 0), -1);
        x.day(15);
        x.pay(1, 1500, 20);
        x.day(35);
        DUE.is("day 29", x.as(29, 9), 10);
        DUE.is("day 30", x.as(30, 9), 20);
        DUE.is("day 54", x.as(54, 9), 20);
        DUE.is("day 55", x.as(55, 9), 0);
        DUE.is("day 60", x.as(60, 9), 10);
        DUE.is("day 80, not redeemed now", x.as(80, 10), 1);
        DUE.is("day 90", x.as(90, 9), 20);
    }

    private static void statuses() {
        PledgeHouse x = new PledgeHouse();
        x.gold(0, 3f, 1000);
        DUE.is("gold's", x.status(), 300);
        x.gold(0, 3f, 1000);
        DUE.is("refused gold's", x.status(), -2);
        x.lend(0, 60, 1);
        DUE.is("lend's", x.status(), 1);
        x.place(0, 1);
        x.told(1, 1);
        x.half();
        x.sum(0);
        x.as(0, 0);
        x.check();
        DUE.is("looking changes none", x.status(), 1);
        DUE.is("status itself neither", x.status(), 1);
        x.pay(1, 1420, 10);
        DUE.is("pay's", x.status(), 52);
        x.pay(1, 5, 10);
        DUE.is("refused pay's", x.status(), -4);
        x.image();
        DUE.is("image's", x.status(), 0);
        x.day(9);
        DUE.is("day's", x.status(), 9);
        x.back();
        DUE.is("back's", x.status(), 0);
        x.undo(1);
        DUE.is("undo's", x.status(), -2);
        x.item(1, 5);
        x.item(1, 5);
        DUE.is("item's", x.status(), 1);
        x.out(1, 0, 9);
        DUE.is("out's", x.status(), -1);
    }

    private static void refusedActsChangeNothing() {
        PledgeHouse x = new PledgeHouse();
        x.item(0, 1000);
        x.lend(0, 100, 1);
        x.oath(1);
        x.day(3);
        int[] told = new int[18];
        for (int what = 0; what < 18; what++) {
            told[what] = x.told(1, what);
        }
        x.pay(1, 1700, 102);
        x.renew(1, 1700, 0);
        x.redeem(1, 1700, 101);
        x.out(1, 1700, 0);
        x.forfeit(1);
        x.bid(1, 5);
        x.sale(1);
        x.fetch(1, 1700);
        x.drop(1);
        x.prove(1);
        x.tear(1, 2);
        x.undo(1);
        x.rule(0, 201);
        x.day(0);
        for (int what = 0; what < 18; what++) {
            DUE.is("refused told(1, " + what + ")", x.told(1, what), told[what]);
        }
        all(x, "refused", new long[] {100, 0, 0, 0, 0, 0, 0, 0, 100, 2, 1, 1, 1});
    }
}
