import java.util.ArrayList;
import java.util.List;

/**
 * Tries calls at the edges that a sentence of the document names. Each call is tried on a house of its own, for
 * which a scene was played anew; a refused one must change nothing but STATUS, whatever is done or looked at next.
 */
final class Edges {
    private static final int MOST_CALLS = 512;
    private static final List<List<Call>> PROBES = probes();

    private final Due due;
    private final String sentence;
    private final String scene;
    private final List<Call> calls;

    private Edges(Due due, String sentence, String scene) {
        this.due = due;
        this.sentence = sentence;
        this.scene = scene;
        this.calls = Call.all(scene);
    }

    /** The words of the document that the edges belong to; the scene is a new house. */
    static Edges of(Due due, String sentence) {
        return new Edges(due, sentence, "");
    }

    Edges in(String otherScene) {
        Edges other = new Edges(due, sentence, otherScene);
        PledgeHouse x = new PledgeHouse();
        for (Call call : other.calls) {
            long got = call.on(x);
            due.is(other.name(call) + " of the scene is taken", got < 0 ? got : 0, 0);
        }
        return other;
    }

    /** So many days, in as few calls as can be. */
    static String days(int n) {
        StringBuilder text = new StringBuilder();
        for (int left = n; left > 0; left -= 400) {
            text.append("day(").append(Math.min(left, 400)).append(") ");
        }
        return text.toString();
    }

    /** An act that is taken, and its answer. */
    Edges taken(String act, long answer) {
        Call call = Call.one(act);
        PledgeHouse x = played();
        due.is(name(call), call.on(x), answer);
        due.is(name(call) + " status()", x.status(), answer);
        due.is(name(call) + " check()", x.check(), 0);
        return this;
    }

    /** What a looking answers, and that it leaves the STATUS. */
    Edges looks(String looking, long answer) {
        Call call = Call.one(looking);
        PledgeHouse x = played();
        int status = x.status();
        due.is(name(call), call.on(x), answer);
        due.is(name(call) + " status()", x.status(), status);
        return this;
    }

    /** What told(ticket, what) answers for each what from one on. */
    Edges tells(int ticket, int from, int... answers) {
        for (int i = 0; i < answers.length; i++) {
            looks("told(" + ticket + ", " + (from + i) + ")", answers[i]);
        }
        return this;
    }

    /** What sum(what) answers for each what from one on. */
    Edges sums(int from, long... answers) {
        for (int i = 0; i < answers.length; i++) {
            looks("sum(" + (from + i) + ")", answers[i]);
        }
        return this;
    }

    Edges refused(String act, long why) {
        Call call = Call.one(act);
        PledgeHouse x = played();
        due.is(name(call), call.on(x), why);
        due.is(name(call) + " status()", x.status(), why);
        for (List<Call> probe : PROBES) {
            PledgeHouse without = played();
            PledgeHouse with = played();
            call.on(with);
            leavesAlike(call, probe, without, with);
        }
        return this;
    }

    /** The act is refused with -1 for each number that may stand in it for the X. */
    Edges noSuch(String act, String... numbers) {
        for (String number : numbers) {
            refused(act.replace("X", number), -1);
        }
        return this;
    }

    private void leavesAlike(Call refused, List<Call> probe, PledgeHouse without, PledgeHouse with) {
        due.is(name(refused) + " and its probe stay in the calls of an object",
            calls.size() + 1 + probe.size() <= MOST_CALLS ? 1 : 0, 1);
        StringBuilder acts = new StringBuilder();
        for (Call call : probe) {
            acts.append(' ').append(call);
            long want = call.on(without);
            long got = call.on(with);
            if (got != want) {
                due.is(name(refused) + " was refused, then" + acts, got, want);
                return;
            }
        }
    }

    private PledgeHouse played() {
        PledgeHouse x = new PledgeHouse();
        for (Call call : calls) {
            call.on(x);
        }
        return x;
    }

    private String name(Call call) {
        return "\"" + sentence + "\": " + scene.trim() + " " + call;
    }

    /** What is done behind a refused act: what it might have changed shows in one of these. */
    private static List<List<Call>> probes() {
        String[] acts = {
            "", "day(1)" + booksOfYesterday(), "day(400)", "back()", "image() day(1) back()",
            "undo(1) undo(2)", "drop(1) drop(2)", "prove(1) prove(2)",
            "claim(1) claim(2) day(100) drop(1) drop(2)",
            "bid(1, 7) bid(2, 7) sale(1) sale(2)", "day(400) forfeit(1) forfeit(2)",
            "pay(1, h1, 1) pay(2, h2, 1)", "renew(1, h1, 2) renew(2, h2, 3) undo(1)",
            "redeem(1, h1, o1) redeem(2, h2, o2)", "out(1, h1, 0) out(1, h1, 1)",
            "fetch(1, h1) fetch(2, h2)", "pay(1, 0, 1) day(1) pay(1, 0, 1) day(13) pay(1, 0, 1) fetch(1, 0)",
            "tear(1, 1) tear(2, 0)", "oath(1) oath(2)",
            "item(0, 7) item(1, 7) item(39, 7) second(0, 7) second(1, 7) second(39, 7)",
            "box(0) box(1) box(39)", "away(0) away(1) away(39) thing(0, 9) thing(1, 9) thing(39, 9)",
            "lend(0, 1, 1) lend(1, 1, 1) lend(39, 1, 1)", showRules(), showRulesOfSales()};
        List<List<Call>> probes = new ArrayList<>();
        String look = look();
        for (String act : acts) {
            probes.add(Call.all(act + look));
        }
        return probes;
    }

    private static String booksOfYesterday() {
        StringBuilder text = new StringBuilder();
        for (int what = 0; what <= 12; what++) {
            text.append(" as(s, ").append(what).append(")");
        }
        return text.toString();
    }

    private static String showRules() {
        StringBuilder text = new StringBuilder("thing(30, 1000) gold(31, 25, 1000) item(32, 1000) coat(33, 1000, 0) ");
        text.append("rare(34, 1) second(34, 1000) second(34, 1000) ");
        for (int place = 30; place <= 34; place++) {
            text.append("lend(").append(place).append(", 601, 1) lend(").append(place).append(", 600, 1) ")
                .append("lend(").append(place).append(", 1, 1) told(t, 1) told(t, 6) told(t, 8) ");
        }
        return text.toString();
    }

    private static String showRulesOfSales() {
        return "thing(35, 1000000) lend(35, 1000, 1) day(230) forfeit(t) bid(t, 9000) sale(t) told(t, 12) "
            + "day(400) day(300) told(t, 13) day(1) told(t, 13) fetch(t, ht)";
    }

    private static String look() {
        StringBuilder text = new StringBuilder();
        for (int place : new int[] {0, 1, 2, 30, 31, 32, 33, 34, 35, 39}) {
            for (int what = 0; what <= 6; what++) {
                text.append(" place(").append(place).append(", ").append(what).append(")");
            }
        }
        for (int ticket = 1; ticket <= 4; ticket++) {
            for (int what = 0; what <= 17; what++) {
                text.append(" told(").append(ticket).append(", ").append(what).append(")");
            }
        }
        for (int what = 0; what <= 12; what++) {
            text.append(" sum(").append(what).append(") as(0, ").append(what).append(")");
        }
        return text.append(" half() check()").toString();
    }
}
