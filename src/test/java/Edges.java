import java.lang.reflect.Array;
import java.lang.reflect.Field;
import java.lang.reflect.Modifier;
import java.util.Arrays;
import java.util.HashSet;
import java.util.IdentityHashMap;
import java.util.Map;
import java.util.NoSuchElementException;
import java.util.Set;

/**
 * What the tests of boundary cases share. Each of them begins with edge(), which tells the promise or the section and
 * the words of the sentence, and makes a new object; so no test leans on what another one did.
 */
class Edges {
    static final String BOUNDS = "IndexOutOfBoundsException";
    static final String ARGUMENT = "IllegalArgumentException";
    static final String STATE = "IllegalStateException";
    static final String NONE_SUCH = "NoSuchElementException";
    static final int LEAST_INT = Integer.MIN_VALUE;
    static final int GREATEST_INT = Integer.MAX_VALUE;

    /** Of these nothing is kept from one call to the next but what can be worked out again. */
    private static final Set<String> AT_HAND = new HashSet<>(Arrays.asList("Reader", "Machine", "Answers", "Planner"));
    private static final Set<String> SCRATCH = new HashSet<>(Arrays.asList("zoneValues", "known", "again"));

    static Columnworks x;
    private static String where = "";
    private static String sentence = "";
    private static int edges = 0;
    private static int checks = 0;
    private static int wrong = 0;

    interface Call {
        Object get();
    }

    static void edge(String promiseOrSection, String words) {
        where = promiseOrSection;
        sentence = words;
        edges++;
        x = new Columnworks();
    }

    static void finish() {
        System.out.println(edges + " boundary cases, " + checks + " checks, " + wrong + " wrong");
        System.exit(wrong == 0 ? 0 : 1);
    }

    static String said(Call call) {
        try {
            return String.valueOf(call.get());
        } catch (IndexOutOfBoundsException | IllegalArgumentException | IllegalStateException | NoSuchElementException e) {
            String name = e.getClass().getSimpleName();
            return name.isEmpty() || !e.getClass().getName().startsWith("java.") ? "another exception" : name;
        }
    }

    static void due(Object want, String what, Call call) {
        checks++;
        String got = said(call);
        if (!got.equals(String.valueOf(want))) {
            wrong++;
            System.out.println(where + " (" + sentence + "): " + what + " answered " + got + ", due is " + want);
        }
    }

    /** The call throws this, and all that the object keeps is what it was. */
    static void refused(String exception, String what, Call call) {
        String before = whole(x);
        due(exception, what, call);
        checks++;
        String after = whole(x);
        if (!after.equals(before)) {
            wrong++;
            System.out.println(where + " (" + sentence + "): " + what + " changed something:\n" + before + "\n" + after);
        }
    }

    // ---- all that an object keeps

    static String whole(Object told) {
        StringBuilder all = new StringBuilder();
        tell(told, all, new IdentityHashMap<>());
        return all.toString();
    }

    private static void tell(Object told, StringBuilder all, Map<Object, Integer> known) {
        if (told == null || told instanceof Number || told instanceof Boolean || told instanceof Character) {
            all.append(told).append(' ');
            return;
        }
        if (told instanceof StringBuilder || told instanceof String) {
            all.append('"').append(told).append("\" ");
            return;
        }
        Integer number = known.get(told);
        if (number != null) {
            all.append('#').append(number).append(' ');
            return;
        }
        known.put(told, known.size());
        if (told.getClass().isArray()) {
            for (int i = 0; i < Array.getLength(told); i++) {
                tell(Array.get(told, i), all, known);
            }
            return;
        }
        tellFields(told, all, known);
    }

    private static void tellFields(Object told, StringBuilder all, Map<Object, Integer> known) {
        all.append('\n').append(told.getClass().getSimpleName()).append(": ");
        for (Field field : told.getClass().getDeclaredFields()) {
            boolean isLeft = Modifier.isStatic(field.getModifiers()) || SCRATCH.contains(field.getName())
                    || AT_HAND.contains(field.getType().getSimpleName());
            if (isLeft) {
                continue;
            }
            try {
                field.setAccessible(true);
                all.append(field.getName()).append('=');
                tell(field.get(told), all, known);
            } catch (IllegalAccessException e) {
                throw new RuntimeException(e);
            }
        }
    }

    /** What an object keeps in a field; for tests that break something within, as no call can. */
    static Object within(Object of, String name) {
        try {
            Field field = of.getClass().getDeclaredField(name);
            field.setAccessible(true);
            return field.get(of);
        } catch (NoSuchFieldException | IllegalAccessException e) {
            throw new RuntimeException(e);
        }
    }

    static void putWithin(Object of, String name, Object told) {
        try {
            Field field = of.getClass().getDeclaredField(name);
            field.setAccessible(true);
            field.set(of, told);
        } catch (NoSuchFieldException | IllegalAccessException e) {
            throw new RuntimeException(e);
        }
    }

    // ---- texts

    /** Puts a text behind the one that is there, eight signs at a call. */
    static int type(String text) {
        int length = x.type(0);
        for (int i = 0; i < text.length(); i += 8) {
            long signs = 0;
            for (int j = i; j < Math.min(text.length(), i + 8); j++) {
                signs = signs << 8 | text.charAt(j);
            }
            length = x.type(signs);
        }
        return length;
    }

    static int text(String text) {
        x.wipe();
        return type(text);
    }

    static int change(String text) {
        text(text);
        return x.change();
    }

    static int ask(String text) {
        text(text);
        return x.ask();
    }

    static int write(int writer, String text) {
        text(text);
        return x.write(writer);
    }

    static int open(String plan, int question, int batch, int room) {
        text(plan);
        return x.open(question, x.moment(), batch, room);
    }

    static String fault() {
        return x.fault(true) + " at " + x.fault(false);
    }

    static String out() {
        StringBuilder all = new StringBuilder();
        for (int i = 0; x.output(i) != Columnworks.NONE; i++) {
            all.append((char) x.output(i));
        }
        return all.toString();
    }

    static String program(int question, int what, int index) {
        int length = x.program(question, what, index);
        String all = out();
        return all.length() == length ? all : all + " of the length " + length;
    }

    // ---- what is there

    static String version(int table, int place) {
        StringBuilder all = new StringBuilder();
        for (int column = 0; column < x.tableAt(table, 0); column++) {
            all.append(column > 0 ? " " : "").append(x.lacks(table, place, column) ? "?" : "" + x.value(table, place, column));
        }
        return all.toString();
    }

    static String versions(int table) {
        StringBuilder all = new StringBuilder();
        for (int place = 0; place < x.tableAt(table, 1); place++) {
            all.append(place > 0 ? "|" : "").append(version(table, place));
        }
        return all.toString();
    }

    /** Of each version the moments at which it was born and died. */
    static String lives(int table) {
        StringBuilder all = new StringBuilder();
        for (int place = 0; place < x.tableAt(table, 1); place++) {
            all.append(place > 0 ? "|" : "").append(x.lived(table, place, false)).append(' ').append(x.lived(table, place, true));
        }
        return all.toString();
    }

    static String tableAt(int table) {
        return x.tableAt(table, 0) + " " + x.tableAt(table, 1) + " " + x.tableAt(table, 2) + " " + x.tableAt(table, 3)
                + " " + x.tableAt(table, 4);
    }

    static String sizes(int table, int column, int zone) {
        StringBuilder all = new StringBuilder();
        for (int way = 0; way < 5; way++) {
            all.append(way > 0 ? " " : "").append(x.sizeOf(table, column, zone, way));
        }
        return all.toString();
    }

    static String questionAt(int question) {
        StringBuilder all = new StringBuilder();
        for (int what = 0; what < 6; what++) {
            all.append(what > 0 ? " " : "").append(x.questionAt(question, what));
        }
        return all.toString();
    }

    static String task(int run, int task) {
        StringBuilder all = new StringBuilder();
        for (int what = 0; what < 5; what++) {
            all.append(what > 0 ? " " : "").append(x.taskAt(run, task, what));
        }
        return all.toString();
    }

    static String tasks(int run) {
        StringBuilder all = new StringBuilder();
        for (int task = 0; task < x.runAt(run, 7); task++) {
            all.append(task > 0 ? "|" : "").append(task(run, task));
        }
        return all.toString();
    }

    static String runAt(int run) {
        StringBuilder all = new StringBuilder();
        for (int what = 0; what < 9; what++) {
            all.append(what > 0 ? " " : "").append(x.runAt(run, what));
        }
        return all.toString();
    }

    /** All rows that a run gave up to now. */
    static String given(int run, int items) {
        StringBuilder all = new StringBuilder();
        for (int row = 0; row < x.runAt(run, 3); row++) {
            for (int item = 0; item < items; item++) {
                all.append(item > 0 ? " " : row > 0 ? "|" : "");
                all.append(x.isLacking(run, row, item) ? "?" : "" + x.answer(run, row, item));
            }
        }
        return all.toString();
    }

    static void runOn(int run) {
        if (x.runAt(run, 0) == Columnworks.GOING) {
            x.step(run, 100000);
        }
    }

    /** The whole answer to a question as of the MOMENT. */
    static String solved(String question) {
        int asked = ask(question);
        int run = x.open(asked, x.moment(), 64, 64);
        runOn(run);
        String all = given(run, x.questionAt(asked, 2));
        x.close(run);
        return all;
    }

    static String entries(int index) {
        StringBuilder all = new StringBuilder();
        for (int entry = 0; entry < x.indexAt(index, 2); entry++) {
            all.append(entry > 0 ? " " : "").append(x.entry(index, entry));
        }
        return all.toString();
    }

    /** The pages of all levels, from the level 0 on. */
    static String pages(int index) {
        StringBuilder all = new StringBuilder();
        for (int level = 0; level < x.indexAt(index, 3); level++) {
            all.append(level > 0 ? "|" : "");
            for (int page = 0; page < 128; page++) {
                int l = level;
                int p = page;
                String told = said(() -> x.page(index, l, p));
                if (told.equals(NONE_SUCH)) {
                    break;
                }
                all.append(page > 0 ? " " : "").append(told);
            }
        }
        return all.toString();
    }

    static String keptAt(int kept) {
        return x.keptAt(kept, 0) + " " + x.keptAt(kept, 1) + " " + x.keptAt(kept, 2) + " " + x.keptAt(kept, 3);
    }

    static String keptRows(int kept, int items) {
        StringBuilder all = new StringBuilder();
        for (int row = 0; row < x.keptAt(kept, 1); row++) {
            for (int item = 0; item < items; item++) {
                all.append(item > 0 ? " " : row > 0 ? "|" : "");
                all.append(x.keptLacks(kept, row, item) ? "?" : "" + x.kept(kept, row, item));
            }
        }
        return all.toString();
    }

    static String writerAt(int writer) {
        return x.writerAt(writer, 0) + " " + x.writerAt(writer, 1) + " " + x.writerAt(writer, 2) + " " + x.writerAt(writer, 3);
    }

    static String viewed(int writer, int table) {
        StringBuilder all = new StringBuilder();
        for (int row = 0; row < x.view(writer, table, Columnworks.NONE, 0); row++) {
            for (int column = 0; column < x.tableAt(table, 0); column++) {
                all.append(column > 0 ? " " : row > 0 ? "|" : "").append(x.view(writer, table, row, column));
            }
        }
        return all.toString();
    }
}
