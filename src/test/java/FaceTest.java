import java.lang.management.ManagementFactory;
import java.lang.reflect.Constructor;
import java.lang.reflect.Field;
import java.lang.reflect.Method;
import java.lang.reflect.Modifier;
import java.nio.file.Files;
import java.nio.file.Path;
import java.util.Arrays;
import java.util.Random;
import java.util.TreeSet;

/** The public face as the document has it, calls with wild arguments, and the room that a run takes. */
public final class FaceTest {
    private static final Due DUE = new Due("FaceTest");
    private static final String[] FACE = {
        "int day(int)", "int rule(int,int)", "int thing(int,int)", "int gold(int,float,int)",
        "int coat(int,int,int)", "int rare(int,float)", "int second(int,int)", "int item(int,int)",
        "int box(int)", "int away(int)", "int lend(int,int,int)", "int tear(int,int)", "int oath(int)",
        "int pay(int,int,int)", "int renew(int,int,int)", "int undo(int)", "int redeem(int,int,int)",
        "int out(int,int,int)", "int forfeit(int)", "int bid(int,int)", "int sale(int)", "int fetch(int,int)",
        "int claim(int)", "int drop(int)", "int prove(int)", "int image()", "int back()",
        "long place(int,int)", "int told(int,int)", "int half()", "long sum(int)", "long as(int,int)",
        "int check()", "int status()"};

    public static void main(String[] args) throws Exception {
        face();
        faceOfTheDocument();
        faceOfTheReadme();
        namesOfTheFaceStandOnce();
        wildArguments();
        room();
        DUE.end();
    }

    private static String shape(Method m) {
        StringBuilder text = new StringBuilder(m.getReturnType().getName()).append(' ').append(m.getName());
        Class<?>[] types = m.getParameterTypes();
        text.append('(');
        for (int i = 0; i < types.length; i++) {
            text.append(i == 0 ? "" : ",").append(types[i].getName());
        }
        return text.append(')').toString();
    }

    private static void face() throws Exception {
        int modifiers = PledgeHouse.class.getModifiers();
        DUE.is("public and final", Modifier.isPublic(modifiers) && Modifier.isFinal(modifiers) ? 1 : 0, 1);
        TreeSet<String> found = new TreeSet<>();
        for (Method m : PledgeHouse.class.getDeclaredMethods()) {
            if (!Modifier.isPrivate(m.getModifiers())) {
                found.add((Modifier.isPublic(m.getModifiers()) ? "" : "not public: ") + shape(m));
            }
        }
        TreeSet<String> due = new TreeSet<>(Arrays.asList(FACE));
        DUE.is("the face " + found, found.equals(due) ? 1 : 0, 1);
        Constructor<?>[] made = PledgeHouse.class.getDeclaredConstructors();
        DUE.is("constructors", made.length, 1);
        DUE.is("constructor is public", Modifier.isPublic(made[0].getModifiers()) ? 1 : 0, 1);
        DUE.is("constructor takes nothing", made[0].getParameterCount(), 0);
        int open = 0;
        for (Field f : PledgeHouse.class.getDeclaredFields()) {
            open += Modifier.isPrivate(f.getModifiers()) ? 0 : 1;
        }
        DUE.is("fields that are not private", open, 1);
        DUE.is("NONE", PledgeHouse.NONE, -1);
    }

    /** FACE is what the document has: "public int rule(int rule, int v);" stands there as "int rule(int,int)". */
    private static void faceOfTheDocument() {
        TreeSet<String> found = new TreeSet<>();
        for (String line : Document.lines()) {
            if (line.matches(" {4}public (int|long) \\w+\\(.*\\);")) {
                found.add(line.replaceAll(" *public |;", "").replaceAll("(int|float) \\w+(?=[,)])", "$1")
                    .replace(", ", ","));
            }
        }
        if (!found.isEmpty()) {
            DUE.is("the document's face " + found, found.equals(new TreeSet<>(Arrays.asList(FACE))) ? 1 : 0, 1);
        }
    }

    private static void faceOfTheReadme() throws Exception {
        String readme = Files.readString(Path.of("README.md"));
        for (String shape : FACE) {
            String name = shape.substring(shape.indexOf(' ') + 1, shape.indexOf('('));
            DUE.is("README.md tells of " + name, readme.contains("| `" + name + "(") ? 1 : 0, 1);
        }
    }

    private static void namesOfTheFaceStandOnce() {
        TreeSet<String> names = new TreeSet<>();
        for (Method m : PledgeHouse.class.getDeclaredMethods()) {
            DUE.is("one method of the name " + m.getName(), names.add(m.getName()) ? 1 : 0, 1);
        }
    }

    private static int wild(Random random) {
        int[] edges = {Integer.MIN_VALUE, Integer.MAX_VALUE, -1, 0, 1, 39, 40, 511, 512, 1000, 7300, 1000000};
        int n = random.nextInt(3);
        return n == 0 ? edges[random.nextInt(edges.length)] : n == 1 ? random.nextInt() : random.nextInt(45);
    }

    private static Object wildOf(Class<?> type, Random random) {
        if (type == int.class) {
            return wild(random);
        }
        return random.nextInt(3) == 0 ? Float.intBitsToFloat(random.nextInt()) : random.nextFloat() * 10100f;
    }

    /** Far more calls than the document allows an object, as none may throw in any state. */
    private static void wildArguments() throws Exception {
        Random random = new Random(7);
        PledgeHouse x = new PledgeHouse();
        Method[] all = PledgeHouse.class.getMethods();
        int thrown = 0;
        for (int call = 0; call < 300000; call++) {
            Method m = all[random.nextInt(all.length)];
            if (m.getDeclaringClass() != PledgeHouse.class) {
                continue;
            }
            Object[] values = new Object[m.getParameterCount()];
            for (int i = 0; i < values.length; i++) {
                values[i] = wildOf(m.getParameterTypes()[i], random);
            }
            try {
                m.invoke(x, values);
            } catch (java.lang.reflect.InvocationTargetException e) {
                thrown++;
                System.out.println(shape(m) + Arrays.toString(values) + " threw " + e.getCause());
            }
        }
        DUE.is("calls that threw", thrown, 0);
        noMoreRoom();
    }

    /** More tickets than 512 calls can reach: the 512th ticket is refused, behind a wrong number. */
    private static void noMoreRoom() {
        PledgeHouse x = new PledgeHouse();
        for (int ticket = 1; ticket <= 511; ticket++) {
            x.thing(0, 1000);
            DUE.is("lend " + ticket, x.lend(0, 100, 1), ticket);
            x.redeem(ticket, x.half(), 102);
        }
        x.thing(0, 1000);
        DUE.is("a wrong place first", x.lend(40, 100, 1), -1);
        DUE.is("no pledge first", x.lend(1, 100, 1), -2);
        DUE.is("a wrong number first", x.lend(0, 0, 1), -6);
        DUE.is("no more room", x.lend(0, 100, 1), -7);
        DUE.is("its status", x.status(), -7);
        DUE.is("under no ticket", x.place(0, 2), 0);
        DUE.is("nothing was lent", x.sum(0), 51100);
        DUE.is("tickets", x.sum(12), 511);
        DUE.is("no such ticket", x.told(512, 0), -1);
        DUE.is("the latest half", x.half(), 511700);
        DUE.is("image", x.image(), 0);
        DUE.is("back", x.back(), 0);
        DUE.is("check", x.check(), 0);
    }

    private static long bytes() {
        com.sun.management.ThreadMXBean bean =
            (com.sun.management.ThreadMXBean) ManagementFactory.getThreadMXBean();
        return bean.getThreadAllocatedBytes(Thread.currentThread().getId());
    }

    /** A field takes 4 bytes at least, so these bounds stay far below 7.3 million fields and elements. */
    private static void room() {
        PledgeHouse[] made = new PledgeHouse[1];
        bytes();
        long before = bytes();
        made[0] = new PledgeHouse();
        DUE.is("a new object stays under 16,000 bytes", bytes() - before < 16000 ? 1 : 0, 1);
        PledgeHouse x = made[0];
        x.item(0, 1000);
        x.item(0, 1000);
        x.lend(0, 100, 1);
        before = bytes();
        for (int i = 0; i < 128; i++) {
            x.renew(1, 1700, 1);
            x.undo(1);
            x.image();
            x.back();
        }
        DUE.is("512 acts stay under 200,000 bytes", bytes() - before < 200000 ? 1 : 0, 1);
        before = bytes();
        for (int i = 0; i < 512; i++) {
            x.as(0, i % 13);
            x.told(1, i % 18);
            x.place(0, i % 7);
            x.check();
        }
        DUE.is("looking makes nothing", bytes() - before < 2000 ? 1 : 0, 1);
    }
}
