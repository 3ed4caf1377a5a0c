/** Promises 13, 14, 31 and what shows a RIGHT half in all acts of a holder. */
public final class HalfTest {
    private static final Due DUE = new Due("HalfTest");

    public static void main(String[] args) {
        halves();
        tearing();
        tornHalves();
        oaths();
        whatEndsAnOath();
        DUE.end();
    }

    private static PledgeHouse lent() {
        PledgeHouse x = new PledgeHouse();
        x.thing(0, 1000);
        x.lend(0, 100, 1);
        return x;
    }

    private static void halves() {
        PledgeHouse x = new PledgeHouse();
        DUE.is("half ahead of any", x.half(), 0);
        for (int n = 1; n <= 12; n++) {
            x.day(17);
            x.thing(n, 1000000);
            int loan = 40000 + 777 * n;
            x.lend(n, loan, 1);
            int due = 1000 * n + (7 * loan + 13 * 17 * n) % 1000;
            DUE.is("half of " + n, x.half(), due);
            DUE.is("the house's half of " + n, x.told(n, 16), due);
        }
    }

    private static void tearing() {
        PledgeHouse x = lent();
        DUE.is("tear(0)", x.tear(0, 5), -1);
        DUE.is("tear(2)", x.tear(2, 0), -1);
        DUE.is("how -1", x.tear(1, -1), -6);
        DUE.is("how 2", x.tear(1, 2), -6);
        DUE.is("not torn", x.told(1, 16), 1700);
        DUE.is("all of it", x.tear(1, 0), 0);
        DUE.is("its number is missing", x.told(1, 15), -1);
        DUE.is("the holder's half too", x.told(1, 16), -1);
        DUE.is("it was torn", x.tear(1, 5), -2);
        DUE.is("half() tells all the same", x.half(), 1700);
        PledgeHouse y = lent();
        y.redeem(1, 1700, 102);
        DUE.is("a closed one may be torn", y.tear(1, 1), 0);
        DUE.is("its number is there", y.told(1, 15), 1);
        DUE.is("the holder's half is gone", y.told(1, 16), -1);
        DUE.is("how it stands", y.told(1, 0), 1);
    }

    private static void tornHalves() {
        for (int how = 0; how <= 1; how++) {
            PledgeHouse x = lent();
            DUE.is("not torn, another number", x.pay(1, 1000, 1), -4);
            x.tear(1, how);
            DUE.is("999", x.pay(1, 999, 1), -4);
            DUE.is("2000", x.pay(1, 2000, 1), -4);
            DUE.is("1999", x.pay(1, 1999, 1), 101);
            DUE.is("1000", x.pay(1, 1000, 1), 100);
            DUE.is("below 0", x.pay(1, -1000, 1), -4);
            DUE.is("none", x.pay(1, 0, 1), -4);
            DUE.is("redeem 1234", x.redeem(1, 1234, 100), 0);
        }
    }

    private static void oaths() {
        PledgeHouse x = lent();
        DUE.is("oath(0)", x.oath(0), -1);
        DUE.is("oath(2)", x.oath(2), -1);
        DUE.is("none yet", x.told(1, 17), -1);
        DUE.is("showing none", x.pay(1, 0, 1), -4);
        DUE.is("oath", x.oath(1), 0);
        DUE.is("its day", x.told(1, 17), 0);
        x.day(10);
        DUE.is("a second begins anew", x.oath(1), 0);
        DUE.is("its day", x.told(1, 17), 10);
        x.day(13);
        DUE.is("13 days", x.pay(1, 0, 1), -4);
        x.day(1);
        DUE.is("14 days", x.pay(1, 0, 1), 101);
        DUE.is("who shows none leaves it", x.told(1, 17), 10);
        DUE.is("renewed by oath", x.renew(1, 0, 1), 1);
        DUE.is("redeemed by oath", x.redeem(1, 0, 100), 0);
        DUE.is("oath on a closed one", x.oath(1), -2);
        DUE.is("the oath as it was", x.told(1, 17), 10);
    }

    private static void whatEndsAnOath() {
        PledgeHouse x = lent();
        x.oath(1);
        x.pay(1, 1701, 1);
        DUE.is("a wrong half changes nothing", x.told(1, 17), 0);
        x.pay(1, 1700, 0);
        DUE.is("nor does a refused act", x.told(1, 17), 0);
        x.renew(1, 1700, 1);
        DUE.is("renewing with it does", x.told(1, 17), -1);
        x.undo(1);
        DUE.is("undoing does not bring it back", x.told(1, 17), -1);
        x.oath(1);
        x.tear(1, 0);
        x.pay(1, 1003, 1);
        DUE.is("any that is right does", x.told(1, 17), -1);
        x.oath(1);
        x.redeem(1, 1003, 101);
        DUE.is("redeeming with it does", x.told(1, 17), -1);
        outAndFetch();
    }

    private static void outAndFetch() {
        PledgeHouse x = new PledgeHouse();
        x.item(0, 1000);
        x.item(0, 1000);
        x.lend(0, 100, 1);
        x.oath(1);
        DUE.is("out", x.out(1, 1700, 0), 1000);
        DUE.is("taking out with it does", x.told(1, 17), -1);
        x.day(50);
        x.forfeit(1);
        DUE.is("a forfeit one's oath", x.oath(1), 0);
        x.bid(1, 1000);
        x.sale(1);
        x.image();
        DUE.is("fetch by a young oath", x.fetch(1, 0), -4);
        x.day(14);
        DUE.is("fetch by oath", x.fetch(1, 0), 846);
        DUE.is("it stays", x.told(1, 17), 50);
        x.back();
        DUE.is("fetch with the half", x.fetch(1, 1700), 846);
        DUE.is("fetching with it does", x.told(1, 17), -1);
    }
}
