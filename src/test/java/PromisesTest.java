/** The document's promises from the first to the last: each stands here, with calls that show what it says. */
public final class PromisesTest {
    private static final Due DUE = new Due("PromisesTest");
    private static final Document DOC = Document.between(DUE, "The constants: `NONE = -1`: There is none.",
        "## Not promised");
    /** On day 8, half 1404: 18 coins of INTEREST a month, months begin on 8, 38, 68; may be FORFEIT on 58. */
    private static final String LENT = "day(8) thing(1, 1500) lend(1, 900, 1) ";
    /** On day 58: 936 are OWED. */
    private static final String FORFEIT = LENT + "day(50) forfeit(1) ";
    /** COSTS 60, OVER 204. */
    private static final String SOLD = FORFEIT + "bid(1, 1200) sale(1) ";
    /** On day 8, half 1504: 4 coins of INTEREST a month. */
    private static final String LOT = "day(8) item(1, 400) item(1, 300) item(1, 200) lend(1, 200, 3) ";
    private static final String[] NO_PLACES = {"-1", "40", "min", "max"};
    private static final String[] NO_TICKETS = {"0", "2", "-1", "512", "min", "max"};

    public static void main(String[] args) {
        newObjectDayRule();
        thingsThatCome();
        secondAndItem();
        boxAndAway();
        lend();
        tearAndOath();
        pay();
        renewAndUndo();
        redeem();
        out();
        forfeitAndBid();
        saleAndFetch();
        claimDropProve();
        imageAndBack();
        place();
        told();
        halfAndSum();
        asCheckStatus();
        DOC.ends();
        DUE.end();
    }

    private static Edges promise(String heading, String text) {
        return DOC.says("Promise " + heading + " " + text);
    }

    private static void newObjectDayRule() {
        Edges fresh = promise("1: A new object", """
            `PledgeHouse()`: DAY 0, nothing on the shelves, no tickets, RULES as at first.""");
        for (int place = 0; place < 40; place++) {
            fresh.looks("place(" + place + ", 0)", -1);
        }
        fresh.sums(0, 0, 0, 0, 0, 0, 0, 0, 0, 0, 0, 0, 0, 0).looks("as(0, 0)", 0).looks("as(1, 0)", -1)
            .looks("told(1, 0)", -1).looks("half()", 0).looks("check()", 0).looks("status()", 0)
            .refused("back()", -2)
            .in(LENT).tells(1, 0, 0, 900, 18, 1, 8, 1, 20, 0, 58);
        promise("2: day", "`int day(int n)`: The DAY is n more (1 .. 400; -5, -6): the DAY.").refused("day(0)", -6)
            .taken("day(1)", 1).taken("day(400)", 400).refused("day(401)", -6).refused("day(-1)", -6)
            .in("day(8)").taken("day(33)", 41)
            .in("day(8) day(33)").looks("as(41, 0)", 0).looks("as(42, 0)", -1)
            .in(Edges.days(7290)).taken("day(10)", 7300).refused("day(11)", -5).refused("day(401)", -5)
            .refused("day(-1)", -6);
        promise("3: rule", "`int rule(int rule, int v)`: A RULE is v from now on: 0. -1, -6.")
            .noSuch("rule(X, 1)", "-1", "14", "min", "max").taken("rule(0, 5)", 0).taken("rule(13, 5)", 0)
            .refused("rule(0, 201)", -6).refused("rule(13, 0)", -6)
            .in("thing(1, 100) rule(9, 250)").taken("lend(1, 25, 1)", 1).refused("lend(1, 26, 1)", -6)
            .in(LENT + "rule(0, 5)").tells(1, 8, 43);
    }

    private static void thingsThatCome() {
        promise("4: thing", "`int thing(int place, int value)`: A THING comes to a PLACE: 0. -1, -2, -6.")
            .noSuch("thing(X, 9)", NO_PLACES).taken("thing(0, 9)", 0).taken("thing(39, 9)", 0)
            .refused("thing(0, 0)", -6)
            .in("thing(0, 9)").looks("place(0, 0)", 0).looks("place(0, 1)", 9).sums(11, 1).refused("thing(0, 0)", -2)
            .taken("thing(1, 9)", 0);
        promise("5: gold", """
            `int gold(int place, float weight, int fineness)`: GOLD comes: its HUNDREDTHS. -1, -2, -6 (weight below 0
            or above 10,000, or no number; fineness).""")
            .noSuch("gold(X, 1, 9)", NO_PLACES).taken("gold(0, 7.777, 9)", 777).refused("gold(0, -1, 9)", -6)
            .refused("gold(0, 10001, 9)", -6).refused("gold(0, NaN, 9)", -6).refused("gold(0, 1, 0)", -6)
            .refused("gold(0, 1, 1001)", -6)
            .in("gold(0, 7.777, 900)").looks("place(0, 0)", 1).looks("place(0, 1)", 279).looks("place(0, 3)", 777)
            .looks("place(0, 4)", 700).sums(11, 1).refused("gold(0, NaN, 0)", -2);
        promise("6: coat", """
            `int coat(int place, int value, int wear)`: A COAT comes: 0. -1, -2, -6 (value; wear not 0 .. 500).""")
            .noSuch("coat(X, 9, 9)", NO_PLACES).taken("coat(0, 9, 0)", 0).taken("coat(0, 9, 500)", 0)
            .refused("coat(0, 9, -1)", -6).refused("coat(0, 9, 501)", -6).refused("coat(0, 0, 9)", -6)
            .refused("coat(0, 1000001, 9)", -6)
            .in("coat(0, 90, 500)").looks("place(0, 0)", 3).looks("place(0, 1)", 90).refused("coat(0, 0, 501)", -2)
            .in("coat(0, 90, 500) day(360)").looks("place(0, 1)", 45);
        promise("7: rare", """
            `int rare(int place, float weight)`: A RARE thing comes, GOLD of this weight: its HUNDREDTHS. -1,
            -2, -6.""")
            .noSuch("rare(X, 1)", NO_PLACES).taken("rare(0, 100.007)", 10000).refused("rare(0, -1)", -6)
            .refused("rare(0, 10001)", -6).refused("rare(0, NaN)", -6)
            .in("rare(0, 100.007)").looks("place(0, 0)", 4).looks("place(0, 1)", 0).looks("place(0, 3)", 10000)
            .looks("place(0, 4)", 700).refused("rare(0, NaN)", -2);
    }

    private static void secondAndItem() {
        promise("8: second", """
            `int second(int place, int value)`: One tells a value of a RARE thing that is not under a ticket (the
            third one and later: the latest two count): how many did. -1, -2 (no RARE thing there, or under a ticket),
            -6.""")
            .in("rare(1, 1)").noSuch("second(X, 9)", NO_PLACES).taken("second(1, 9)", 1).refused("second(1, 0)", -6)
            .refused("second(1, 1000001)", -6).refused("second(0, 0)", -2)
            .in("gold(1, 1, 9)").refused("second(1, 9)", -2)
            .in("rare(1, 1) second(1, 70)").taken("second(1, 90)", 2)
            .in("rare(1, 1) second(1, 70) second(1, 90)").looks("place(1, 1)", 70).taken("second(1, 95)", 3)
            .in("rare(1, 1) second(1, 70) second(1, 90) second(1, 95)").looks("place(1, 1)", 90)
            .looks("place(1, 6)", 3)
            .in("rare(1, 1) second(1, 70) second(1, 90) lend(1, 9, 1)").refused("second(1, 9)", -2);
        promise("9: item", """
            `int item(int place, int value)`: An item comes into a LOT that is not under a ticket; where nothing is, a
            LOT begins with it: the item's number (0 .. 5, by their coming). -1, -2 (something else, under a ticket),
            -6 (value, or six are there).""")
            .noSuch("item(X, 9)", NO_PLACES).taken("item(0, 9)", 0).refused("item(0, 0)", -6)
            .refused("item(0, 1000001)", -6)
            .in("box(0)").refused("item(0, 0)", -2)
            .in("thing(0, 9)").refused("item(0, 9)", -2)
            .in(LOT).refused("item(1, 9)", -2)
            .in("item(0, 9) item(0, 8)").looks("place(0, 0)", 2).looks("place(0, 5)", 2).looks("place(0, 1)", 17)
            .taken("item(0, 7)", 2).sums(11, 1)
            .in("item(0, 9) item(0, 8) item(0, 7) item(0, 6) item(0, 5)").taken("item(0, 4)", 5)
            .in("item(0, 9) item(0, 8) item(0, 7) item(0, 6) item(0, 5) item(0, 4)").refused("item(0, 3)", -6)
            .looks("place(0, 1)", 39);
    }

    private static void boxAndAway() {
        promise("10: box", """
            `int box(int place)`: An empty BOX comes where nothing is, or goes where one is: 1, 0. -1, -2.""")
            .noSuch("box(X)", NO_PLACES).taken("box(0)", 1)
            .in("box(0)").looks("place(0, 0)", 5).taken("box(0)", 0).sums(11, 0)
            .in("box(0) box(0)").looks("place(0, 0)", -1).taken("box(0)", 1).taken("thing(0, 9)", 0)
            .in("thing(0, 9)").refused("box(0)", -2)
            .in(LENT).refused("box(1)", -2);
        promise("11: away", """
            `int away(int place)`: Who brought a pledge that is not under a ticket takes it away: 0. -1, -2.""")
            .noSuch("away(X)", NO_PLACES).refused("away(0)", -2)
            .in("box(0)").refused("away(0)", -2)
            .in("thing(0, 9)").taken("away(0)", 0)
            .in("thing(0, 9) away(0)").looks("place(0, 0)", -1).sums(11, 0).refused("away(0)", -2).taken("box(0)", 1)
            .in(LENT).refused("away(1)", -2)
            .in(LENT + "redeem(1, 1404, 918)").refused("away(1)", -2);
    }

    private static void lend() {
        Edges at = promise("12: lend", """
            `int lend(int place, int amount, int months)`: A LOAN on the pledge of a PLACE for some months: the
            ticket. -1, -2 (no pledge, under a ticket), -6 (months, amount), -7.""");
        at.noSuch("lend(X, 9, 1)", NO_PLACES).refused("lend(0, 9, 1)", -2)
            .in("box(0)").refused("lend(0, 9, 1)", -2)
            .in(LENT).refused("lend(1, 9, 1)", -2).looks("place(1, 2)", 1).sums(0, 900).sums(8, 900, 18, 1, 1, 1);
        at.in("thing(1, 1500)").taken("lend(1, 900, 1)", 1).refused("lend(1, 901, 1)", -6)
            .refused("lend(1, 0, 1)", -6).refused("lend(1, 900, 0)", -6).refused("lend(1, 900, 13)", -6)
            .taken("lend(1, 1, 12)", 1);
        at.in(LENT + "thing(0, 1500)").taken("lend(0, 900, 12)", 2);
    }

    private static void tearAndOath() {
        promise("13: tear", """
            `int tear(int ticket, int how)`: The house's half of a ticket is torn: how 0 all of it is missing, 1 all
            but its number: 0. -1, -2 (it was torn), -6.""")
            .in(LENT).noSuch("tear(X, 0)", NO_TICKETS).taken("tear(1, 0)", 0).taken("tear(1, 1)", 0)
            .refused("tear(1, 2)", -6).refused("tear(1, -1)", -6)
            .in(LENT + "tear(1, 0)").refused("tear(1, 2)", -2).tells(1, 15, -1, -1).taken("pay(1, 1999, 9)", 909)
            .in(LENT + "tear(1, 1)").refused("tear(1, 0)", -2).tells(1, 15, 1, -1).taken("pay(1, 1000, 9)", 909);
        promise("14: oath", """
            `int oath(int ticket)`: The holder of an OPEN ticket tells an OATH from this day on (a second one begins
            anew): 0. -1, -2.""")
            .in(LENT).noSuch("oath(X)", NO_TICKETS).taken("oath(1)", 0).tells(1, 17, -1)
            .in(LENT + "oath(1) day(14)").tells(1, 17, 8).taken("pay(1, 0, 9)", 909)
            .in(LENT + "oath(1) day(14) oath(1)").tells(1, 17, 22).refused("pay(1, 0, 9)", -4)
            .in(LENT + "redeem(1, 1404, 918)").refused("oath(1)", -2)
            .in(SOLD).refused("oath(1)", -2)
            .in(LENT + "claim(1) prove(1)").refused("oath(1)", -2);
    }

    private static void pay() {
        promise("15: pay", """
            `int pay(int ticket, int half, int coins)`: A part is paid: OWED then. -1, -2, -4, -6.""")
            .in(LENT).noSuch("pay(X, 1404, 9)", NO_TICKETS).taken("pay(1, 1404, 118)", 800)
            .refused("pay(1, 1404, 0)", -6).refused("pay(1, 1404, 918)", -6).refused("pay(1, 1405, 0)", -4)
            .refused("pay(1, 0, 9)", -4)
            .in(LENT + "pay(1, 1404, 118)").tells(1, 1, 800, 0).sums(1, 18, 100).taken("pay(1, 1404, 799)", 1)
            .in(LENT + "pay(1, 1404, 118) day(30)").tells(1, 1, 800, 16)
            .in(LENT + "claim(1)").taken("pay(1, 1404, 9)", 909)
            .in(FORFEIT).refused("pay(1, 9, 0)", -2)
            .in(SOLD).refused("pay(1, 9, 0)", -2);
    }

    private static void renewAndUndo() {
        String renewed = LENT + "day(31) renew(1, 1404, 4) ";
        promise("16: renew", """
            `int renew(int ticket, int half, int months)`: The TERM is renewed with so many months: the INTEREST that
            was paid. -1, -2, -3, -4, -6.""")
            .in(LENT).noSuch("renew(X, 1404, 4)", NO_TICKETS).taken("renew(1, 1404, 4)", 18)
            .refused("renew(1, 1404, 0)", -6).refused("renew(1, 1404, 13)", -6).refused("renew(1, 1405, 0)", -4)
            .in(LENT + "day(31)").taken("renew(1, 1404, 12)", 36)
            .in(renewed).tells(1, 1, 900, 0, 0, 68, 4, 20, 0, 208).sums(1, 36, 0)
            .in(LENT + "claim(1)").refused("renew(1, 1405, 0)", -3)
            .in(FORFEIT).refused("renew(1, 1405, 0)", -2)
            .in(SOLD).refused("renew(1, 1404, 1)", -2);
        promise("17: undo", """
            `int undo(int ticket)`: The latest renewing is undone: the coins that go back. -1, -2 (none is there to be
            undone), -5 (its day is over).""")
            .in(renewed).noSuch("undo(X)", NO_TICKETS).taken("undo(1)", 36)
            .in(renewed + "undo(1)").tells(1, 1, 900, 36, 2, 8, 1, 20, 0, 58).sums(1, 0, 0).refused("undo(1)", -2)
            .in(LENT).refused("undo(1)", -2)
            .in(renewed + "day(1)").refused("undo(1)", -5)
            .in(renewed + "day(1) pay(1, 1404, 9)").refused("undo(1)", -2)
            .in(renewed + "redeem(1, 1404, 900)").refused("undo(1)", -2);
    }

    private static void redeem() {
        promise("18: redeem", """
            `int redeem(int ticket, int half, int coins)`: The pledge is given back for coins: 0. -1, -2, -3, -4, -6
            (not just what is OWED).""")
            .in(LENT).noSuch("redeem(X, 1404, 918)", NO_TICKETS).taken("redeem(1, 1404, 918)", 0)
            .refused("redeem(1, 1404, 917)", -6).refused("redeem(1, 1404, 919)", -6)
            .refused("redeem(1, 1405, 0)", -4)
            .in(LENT + "claim(1)").refused("redeem(1, 1405, 0)", -3)
            .in(FORFEIT).refused("redeem(1, 1405, 0)", -2)
            .in(LENT + "redeem(1, 1404, 918)").tells(1, 0, 1, 900, 18, 1).looks("place(1, 0)", -1)
            .sums(0, 900, 18, 900, 0, 0, 0, 0, 0, 0, 0, 0, 0, 1).refused("redeem(1, 1404, 918)", -2);
    }

    private static void out() {
        promise("19: out", """
            `int out(int ticket, int half, int item)`: An item of a LOT is taken out: the WORTH of the rest. -1
            (ticket; item not 0 .. 5), -2 (also: no LOT, or that item is not in it), -3, -4, -6 (it is the last one,
            or the rest bears less).""")
            .in(LOT).noSuch("out(X, 1504, 0)", NO_TICKETS).refused("out(1, 1504, -1)", -1)
            .refused("out(1, 1504, 6)", -1).refused("out(1, 9, 3)", -2).refused("out(1, 9, 5)", -2)
            .refused("out(1, 1505, 0)", -4).taken("out(1, 1504, 0)", 500).taken("out(1, 1504, 1)", 600)
            .taken("out(1, 1504, 2)", 700)
            .in(LOT + "out(1, 1504, 0)").looks("place(1, 5)", 2).looks("place(1, 1)", 500)
            .refused("out(1, 1504, 0)", -2).refused("out(1, 1504, 1)", -6).refused("out(1, 1504, 2)", -6)
            .in(LOT + "out(1, 1504, 0) pay(1, 1504, 100)").taken("out(1, 1504, 1)", 200)
            .taken("out(1, 1504, 2)", 300)
            .in(LOT + "out(1, 1504, 0) pay(1, 1504, 100) out(1, 1504, 2)").refused("out(1, 1504, 1)", -6)
            .in(LOT + "claim(1)").refused("out(1, 9, 0)", -3)
            .in(LENT).refused("out(1, 1404, 0)", -2)
            .in(LOT + "redeem(1, 1504, 204)").refused("out(1, 1504, 0)", -2);
    }

    private static void forfeitAndBid() {
        promise("20: forfeit", "`int forfeit(int ticket)`: A ticket is FORFEIT: what is OWED. -1, -2, -3, -5.")
            .in(LENT + "day(50)").noSuch("forfeit(X)", NO_TICKETS).taken("forfeit(1)", 936)
            .in(LENT + "day(49)").refused("forfeit(1)", -5)
            .in(FORFEIT).tells(1, 7, 1).refused("forfeit(1)", -2)
            .in(LENT + "claim(1)").refused("forfeit(1)", -3)
            .in(LENT + "claim(1) day(50)").refused("forfeit(1)", -3)
            .in(LENT + "redeem(1, 1404, 918) day(50)").refused("forfeit(1)", -2);
        promise("21: bid", """
            `int bid(int ticket, int coins)`: A bid for a FORFEIT one: how many there were. -1, -2, -6 (not 1 ..
            10,000,000).""")
            .in(FORFEIT).noSuch("bid(X, 9)", NO_TICKETS).taken("bid(1, 1)", 1).taken("bid(1, 10000000)", 1)
            .refused("bid(1, 0)", -6).refused("bid(1, 10000001)", -6)
            .in(FORFEIT + "bid(1, 9) bid(1, 8)").taken("bid(1, 7)", 3).tells(1, 11, 9)
            .in(LENT + "day(50)").refused("bid(1, 0)", -2)
            .in(SOLD).refused("bid(1, 0)", -2);
    }

    private static void saleAndFetch() {
        promise("22: sale", "`int sale(int ticket)`: It is SOLD: the highest bid. -1, -2 (also: no bid), -3.")
            .in(FORFEIT + "bid(1, 1100) bid(1, 1200)").noSuch("sale(X)", NO_TICKETS).taken("sale(1)", 1200)
            .in(FORFEIT).refused("sale(1)", -2)
            .in(LENT).refused("sale(1)", -2)
            .in(FORFEIT + "claim(1)").refused("sale(1)", -2)
            .in(FORFEIT + "bid(1, 9) claim(1)").refused("sale(1)", -3)
            .in(SOLD).refused("sale(1)", -2).tells(1, 0, 2, 900, 36, 2).tells(1, 11, 1200, 204, 0)
            .looks("place(1, 0)", -1).sums(0, 900, 36, 900, 60, 204, 0, 0, 0, 0, 0, 0, 0, 1);
        promise("23: fetch", """
            `int fetch(int ticket, int half)`: The OVER of a SOLD ticket is fetched: its coins. -1, -2 (none, or
            fetched), -4, -5.""")
            .in(SOLD).noSuch("fetch(X, 1404)", NO_TICKETS).taken("fetch(1, 1404)", 204).refused("fetch(1, 1405)", -4)
            .refused("fetch(1, 0)", -4)
            .in(SOLD + "fetch(1, 1404)").refused("fetch(1, 1405)", -2).tells(1, 12, 204, 1).sums(4, 0, 204, 0)
            .in(SOLD + Edges.days(700)).taken("fetch(1, 1404)", 204)
            .in(SOLD + Edges.days(701)).refused("fetch(1, 1404)", -5).refused("fetch(1, 1405)", -4)
            .tells(1, 12, 204, 2).sums(4, 0, 0, 204)
            .in(FORFEIT + "bid(1, 900) sale(1)").refused("fetch(1, 1405)", -2)
            .in(LENT).refused("fetch(1, 1405)", -2);
    }

    private static void claimDropProve() {
        promise("24: claim", "`int claim(int ticket)`: A CLAIM: 0. -1, -2, -3 (one stands).")
            .in(LENT).noSuch("claim(X)", NO_TICKETS).taken("claim(1)", 0)
            .in(LENT + "claim(1)").tells(1, 9, 1).refused("claim(1)", -3)
            .in(FORFEIT).taken("claim(1)", 0)
            .in(SOLD).refused("claim(1)", -2);
        String claimed = LENT + "day(28) claim(1) day(7) ";
        promise("25: drop", """
            `int drop(int ticket)`: The CLAIM that stands is dropped: CLAIMED days so far. -1, -2, -3 (none stands).""")
            .in(claimed).noSuch("drop(X)", NO_TICKETS).taken("drop(1)", 5)
            .in(claimed + "drop(1)").tells(1, 8, 63, 0, 5).refused("drop(1)", -3)
            .in(claimed + "drop(1) claim(1) day(2)").taken("drop(1)", 7)
            .in(LENT).refused("drop(1)", -3)
            .in(LENT + "redeem(1, 1404, 918)").refused("drop(1)", -2);
        promise("26: prove", "`int prove(int ticket)`: It is PROVED: what is LOSS by it. -1, -2, -3 (none stands).")
            .in(claimed).noSuch("prove(X)", NO_TICKETS).taken("prove(1)", 936)
            .in(claimed + "pay(1, 1404, 136)").taken("prove(1)", 800)
            .in(claimed + "prove(1)").tells(1, 0, 3, 900, 36, 2).tells(1, 9, 0, 5).looks("place(1, 0)", -1)
            .sums(0, 900, 0, 0, 0, 0, 0, 0, 936, 0, 0, 0, 0, 1).refused("prove(1)", -2)
            .in(LENT).refused("prove(1)", -3)
            .in(FORFEIT + "claim(1)").taken("prove(1)", 936);
    }

    private static void imageAndBack() {
        promise("27: image", "`int image()`: All is kept as it is, instead of what was kept before: 0.")
            .taken("image()", 0)
            .in(LENT + "image() pay(1, 1404, 118) image() day(9) back()").tells(1, 1, 800, 0).taken("day(1)", 9);
        String gone = "rule(4, 90) day(50) forfeit(1) bid(1, 9) sale(1) box(0) thing(1, 5) lend(1, 3, 1) ";
        promise("28: back", "`int back()`: All is as it was kept (that stays kept): 0. -2: nothing is kept.")
            .refused("back()", -2)
            .in(LENT).refused("back()", -2)
            .in(LENT + "image() " + gone).taken("back()", 0)
            .in(LENT + "image() " + gone + "back()")
            .tells(1, 0, 0, 900, 18, 1, 8, 1, 20, 0, 58, 0, 0, 0, 0, 0, 1, 1, 1404, -1).looks("told(2, 0)", -1)
            .looks("half()", 1404).looks("place(0, 0)", -1).looks("place(1, 1)", 1500).looks("place(1, 2)", 1)
            .looks("as(8, 0)", 900).looks("as(9, 0)", -1).sums(0, 900, 0, 0, 0, 0, 0, 0, 0, 900, 18, 1, 1, 1)
            .taken("back()", 0).taken("day(1)", 9)
            .in(LENT + "image() " + gone + "back() thing(0, 9) lend(0, 5, 1)").tells(2, 6, 20)
            .in(LENT + "image() thing(0, 9) back()").sums(11, 1)
            .in("day(8) image() day(9) back() day(3) back()").taken("day(1)", 9);
    }

    private static void place() {
        Edges at = promise("29: place", """
            `long place(int place, int what)`: Looking: of a PLACE: 0 what is there: NONE nothing, 5 a BOX, else its
            KIND; 1 WORTH, 2 the ticket that is OPEN on it, or 0; 3 GOLD, RARE: HUNDREDTHS, 4 of these what was left
            over of the weight, in thousandths of a HUNDREDTH, cut; 5 LOT: how many items, 6 RARE: how many told a
            value. 0 for others; NONE for another what, or no such PLACE.""");
        String scene = "box(0) thing(1, 50) lend(1, 9, 1) gold(2, 7.777, 900) lend(2, 9, 1) item(30, 7) item(30, 8) "
            + "coat(31, 60, 9) rare(32, 100.007) second(32, 5) second(32, 9) second(32, 4) ";
        int[] places = {39, 0, 1, 2, 30, 31, 32};
        long[][] rows = {{-1, 0, 0, 0, 0, 0, 0}, {5, 0, 0, 0, 0, 0, 0}, {0, 50, 1, 0, 0, 0, 0}, {1, 279, 2, 777, 700,
            0, 0},
            {2, 15, 0, 0, 0, 2, 0}, {3, 60, 0, 0, 0, 0, 0}, {4, 4, 0, 10000, 700, 0, 3}};
        Edges there = at.in(scene);
        for (int i = 0; i < places.length; i++) {
            for (int what = -1; what <= 7; what++) {
                there.looks("place(" + places[i] + ", " + what + ")", what < 0 || what > 6 ? -1 : rows[i][what]);
            }
        }
        for (String none : NO_PLACES) {
            for (int what = -1; what <= 7; what++) {
                there.looks("place(" + none + ", " + what + ")", -1);
            }
        }
    }

    private static void told() {
        Edges at = promise("30: told", """
            `int told(int ticket, int what)`: Looking: of a ticket: 0 how it stands: 0 OPEN, 1 .. 3 as above; 1
            PRINCIPAL, 2 INTEREST, 3 months that began in this TERM, 4 START, 5 TERM, 6 RATE, 7 whether it is FORFEIT
            (1), 8 the first day on which it may be (a CLAIM that stands being dropped today), 9 whether a CLAIM
            stands (1), 10 CLAIMED days of those that were dropped, 11 the highest bid, 12 OVER, 13 whether that was
            fetched (1), or is the house's (2), 14 its PLACE, 15 the ticket's number as the house's half has it, or
            NONE if that is missing, 16 the holder's half as it has that, or NONE if it is gone, 17 the day of an
            OATH, or NONE. Of one that is not OPEN 1, 2, 3 as they were last. NONE for another what, or no such
            ticket.""");
        at.in(LENT).tells(1, -1, -1, 0, 900, 18, 1, 8, 1, 20, 0, 58, 0, 0, 0, 0, 0, 1, 1, 1404, -1, -1);
        at.in(LENT + "day(1) oath(1) day(29) pay(1, 0, 136) tear(1, 1) claim(1) day(40)")
            .tells(1, 0, 0, 800, 16, 3, 8, 1, 20, 0, 98, 1, 0, 0, 0, 0, 1, 1, -1, 9);
        at.in(LENT + "day(28) claim(1) day(7) drop(1) rule(4, 55) renew(1, 1404, 6)")
            .tells(1, 0, 0, 900, 0, 0, 68, 6, 55, 0, 268, 0, 0, 0, 0, 0, 1, 1, 1404, -1);
        at.in(LENT + "day(28) claim(1) day(7) drop(1) tear(1, 0) day(20) forfeit(1) bid(1, 1200) bid(1, 7)")
            .tells(1, 0, 0, 900, 36, 2, 8, 1, 20, 1, 63, 0, 5, 1200, 0, 0, 1, -1, -1, -1);
        at.in(SOLD + "fetch(1, 1404) day(100)")
            .tells(1, 0, 2, 900, 36, 2, 8, 1, 20, 1, 58, 0, 0, 1200, 204, 1, 1, 1, 1404, -1);
        at.in(SOLD + Edges.days(701)).tells(1, 12, 204, 2);
        at.in(LENT + "redeem(1, 1404, 918) day(100)").tells(1, 0, 1, 900, 18, 1);
        at.in(LENT + "day(30) claim(1) prove(1) day(100)").tells(1, 0, 3, 900, 36, 2);
        for (String none : NO_TICKETS) {
            for (int what = -1; what <= 18; what++) {
                at.in(LENT).looks("told(" + none + ", " + what + ")", -1);
            }
        }
    }

    private static void halfAndSum() {
        promise("31: half", "`int half()`: Looking: the holder's half of the latest ticket; 0 ahead of any.")
            .looks("half()", 0)
            .in("thing(1, 1500)").looks("half()", 0)
            .in(LENT).looks("half()", 1404)
            .in(LENT + "thing(0, 500) lend(0, 33, 1)").looks("half()", 2335)
            .in(LENT + "thing(0, 500) lend(0, 33, 1) redeem(2, 2335, 34) tear(2, 0)").looks("half()", 2335);
        String many = LENT + "item(0, 400) item(0, 300) lend(0, 200, 3) thing(2, 70) gold(30, 100, 1000) "
            + "lend(30, 2000, 12) coat(31, 99, 9) lend(31, 50, 1) day(50) forfeit(1) bid(1, 1200) sale(1) "
            + "forfeit(4) bid(4, 50) sale(4) claim(2) prove(2) pay(3, 3104, 130) ";
        promise("32: sum", """
            `long sum(int what)`: Looking, coins: 0 lent, 1 got as INTEREST (by sales, too), 2 got back of PRINCIPAL
            (by sales, too), 3 COSTS got, 4 OVERS that are kept for holders, 5 OVERS that were fetched, 6 OVERS that
            are the house's, 7 LOSS, 8 PRINCIPAL of all OPEN ones, 9 INTEREST of these; 10 tickets that are OPEN, 11
            pledges on places, 12 tickets. NONE for another what. (LOSS is of PRINCIPAL and INTEREST as they were
            OWED; by a sale what is got goes to COSTS first, then INTEREST, then PRINCIPAL.)""")
            .in(many).sums(-1, -1, 3150, 118, 995, 63, 204, 0, 0, 213, 1950, 0, 1, 2, 4, -1)
            .in(many + "fetch(1, 1404)").sums(4, 0, 204, 0)
            .in(many + Edges.days(701)).sums(4, 0, 0, 204).looks("sum(min)", -1).looks("sum(max)", -1);
    }

    private static void asCheckStatus() {
        String year = LENT + "day(9) pay(1, 1404, 118) pay(1, 1404, 100) box(0) thing(2, 9) day(21) away(2) "
            + "redeem(1, 1404, 714) day(10) ";
        Edges as = promise("33: as", """
            `long as(int day, int what)`: Looking: sum() as it was at the end of a DAY (of today: now). NONE: another
            what, or no day up to today.""");
        int[] days = {0, 7, 8, 16, 17, 37, 38, 48};
        long[][] rows = {{0, 0, 0, 0, 0, 0, 0, 0}, {0, 0, 0, 0, 0, 0, 0, 0}, {900, 0, 0, 900, 18, 1, 1, 1},
            {900, 0, 0, 900, 18, 1, 1, 1}, {900, 18, 200, 700, 0, 1, 2, 1}, {900, 18, 200, 700, 0, 1, 2, 1},
            {900, 32, 900, 0, 0, 0, 0, 1}, {900, 32, 900, 0, 0, 0, 0, 1}};
        int[] whats = {0, 1, 2, 8, 9, 10, 11, 12};
        for (int i = 0; i < days.length; i++) {
            for (int j = 0; j < whats.length; j++) {
                as.in(year).looks("as(" + days[i] + ", " + whats[j] + ")", rows[i][j]);
            }
        }
        as.in(year).looks("as(-1, 0)", -1).looks("as(49, 0)", -1).looks("as(8, -1)", -1).looks("as(8, 13)", -1);
        as.in(SOLD + Edges.days(701)).looks("as(57, 3)", 0).looks("as(58, 3)", 60).looks("as(58, 4)", 204)
            .looks("as(758, 4)", 204).looks("as(759, 4)", 0).looks("as(758, 6)", 0).looks("as(759, 6)", 204)
            .looks("as(57, 9)", 36).looks("as(37, 9)", 18).looks("as(58, 10)", 0);
        promise("34: check", """
            `int check()`: Looking: how many of these do not hold: coins lent are those got back of PRINCIPAL, those
            of OPEN ones, and what of LOSS was PRINCIPAL, together; each pledge on a PLACE is under one OPEN ticket at
            most, and each OPEN ticket's on its PLACE.""")
            .looks("check()", 0)
            .in(year).looks("check()", 0)
            .in(SOLD).looks("check()", 0)
            .in(FORFEIT + "bid(1, 9) sale(1)").looks("check()", 0)
            .in(FORFEIT + "claim(1) prove(1) thing(1, 9) lend(1, 5, 1)").looks("check()", 0);
        promise("35: status", "`int status()`: Looking: the answer of the latest act; 0 ahead of any.")
            .looks("status()", 0)
            .in("day(8)").looks("status()", 8)
            .in(LENT + "pay(1, 1404, 118)").looks("status()", 800).taken("day(1)", 9).refused("pay(1, 9, 9)", -4)
            .refused("drop(1)", -3).refused("back()", -2);
    }
}
