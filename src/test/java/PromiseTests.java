import java.util.NoSuchElementException;

/** Written by hand from the document: for each promise ordinary inputs, edges, wrong inputs, the order of exceptions. */
public final class PromiseTests {
    static final String BOUNDS = "IndexOutOfBoundsException";
    static final String ARGUMENT = "IllegalArgumentException";
    static final String STATE = "IllegalStateException";
    static final String NONE_SUCH = "NoSuchElementException";
    static int wrong = 0;
    static int checks = 0;
    static int promise = 0;
    static Columnworks x;
    static Runnable start = () -> { };

    interface Call {
        Object get();
    }

    static void due(String what, Object want, Call call) {
        checks++;
        String got;
        try {
            got = String.valueOf(call.get());
        } catch (IndexOutOfBoundsException | IllegalArgumentException | IllegalStateException | NoSuchElementException e) {
            got = e.getClass().getSimpleName();
        }
        if (!got.equals(String.valueOf(want))) {
            wrong++;
            System.out.println("promise " + promise + ": " + what + " answered " + got + ", due is " + want);
        }
    }

    static void fresh(int number) {
        promise = number;
        x = new Columnworks();
    }

    static void type(String s) {
        for (int i = 0; i < s.length(); i++) {
            x.type(s.charAt(i));
        }
    }

    static Object change(String s) {
        x.wipe();
        type(s);
        return x.change();
    }

    static int ask(String s) {
        x.wipe();
        type(s);
        return x.ask();
    }

    static Object write(int w, String s) {
        x.wipe();
        type(s);
        return x.write(w);
    }

    static String fault(String s) {
        x.wipe();
        type(s);
        return x.fault(true) + " " + x.fault(false);
    }

    static String out() {
        StringBuilder b = new StringBuilder();
        for (int i = 0; x.output(i) != -1; i++) {
            b.append((char) x.output(i));
        }
        return b.toString();
    }

    static String program(int q, int what, int index) {
        int n = x.program(q, what, index);
        return out() + (out().length() == n ? "" : " of the length " + n);
    }

    /** The values of a table's version, with ? for LACKING. */
    static String version(int t, int place) {
        StringBuilder b = new StringBuilder();
        for (int c = 0; c < x.tableAt(t, 0); c++) {
            b.append(c > 0 ? " " : "").append(x.lacks(t, place, c) ? "?" : "" + x.value(t, place, c));
        }
        return b.toString();
    }

    /** All that a run gave. */
    static String given(int run, int items) {
        StringBuilder b = new StringBuilder();
        for (int i = 0; i < x.runAt(run, 3); i++) {
            for (int j = 0; j < items; j++) {
                b.append(j > 0 ? " " : i > 0 ? "|" : "").append(x.isLacking(run, i, j) ? "?" : "" + x.answer(run, i, j));
            }
        }
        return b.toString();
    }

    /** Asks, runs to the end, closes; the whole answer. A full object is made anew. */
    static String solved(String question) {
        if (!said(() -> x.questionAt(11, 0)).equals(" -")) {
            x = new Columnworks();
            start.run();
        }
        int q = ask(question);
        int run = x.open(q, x.moment(), 64, 64);
        if (x.runAt(run, 0) == 0) {
            x.step(run, 100000);
        }
        String s = given(run, x.questionAt(q, 2));
        x.close(run);
        return s;
    }

    static String task(int run, int task) {
        StringBuilder b = new StringBuilder();
        for (int i = 0; i < 5; i++) {
            b.append(i > 0 ? " " : "").append(x.taskAt(run, task, i));
        }
        return b.toString();
    }

    static String state(Columnworks y) {
        StringBuilder b = new StringBuilder("moment " + y.moment());
        for (int t = 0; t < 4; t++) {
            int table = t;
            b.append(said(() -> y.tableAt(table, 1))).append(said(() -> y.tableAt(table, 2))).append(said(() -> y.tableAt(table, 4)));
        }
        for (int i = 0; i < 6; i++) {
            int n = i;
            b.append(said(() -> y.questionAt(n, 0))).append(said(() -> y.runAt(n, 0))).append(said(() -> y.indexAt(n, 2)));
            b.append(said(() -> y.keptAt(n, 2))).append(said(() -> y.writerAt(n, 0))).append(said(() -> y.writerAt(n, 3)));
        }
        b.append(y.fault(true)).append(' ').append(y.fault(false)).append(y.output(0));
        return b.toString();
    }

    static String said(Call call) {
        try {
            return " " + call.get();
        } catch (RuntimeException e) {
            return " -";
        }
    }

    /** The call throws this, and nothing that can be seen is otherwise then. */
    static void refused(String what, String exception, Call call) {
        String before = state(x);
        due(what, exception, call);
        due(what + " changed nothing", before, () -> state(x));
    }

    public static void main(String[] args) {
        promise1();
        text();
        faults();
        tables();
        zones();
        questions();
        programs();
        answers();
        plans();
        runs();
        indexes();
        kept();
        writers();
        measures();
        limits();
        System.out.println(checks + " checks, " + wrong + " wrong");
        System.exit(wrong == 0 ? 0 : 1);
    }

    static void promise1() {
        fresh(1);
        due("moment()", 0, () -> x.moment());
        due("wipe()", 0, () -> x.wipe());
        due("output(0)", -1, () -> x.output(0));
        due("tableAt(0, 0)", BOUNDS, () -> x.tableAt(0, 0));
        due("questionAt(0, 0)", BOUNDS, () -> x.questionAt(0, 0));
        due("runAt(0, 0)", BOUNDS, () -> x.runAt(0, 0));
        due("indexAt(0, 0)", BOUNDS, () -> x.indexAt(0, 0));
        due("keptAt(0, 0)", BOUNDS, () -> x.keptAt(0, 0));
        due("writerAt(0, 0)", BOUNDS, () -> x.writerAt(0, 0));
        due("errors()", 0, () -> x.errors());
        due("constants", "-1 0 1 2 3 4 0 1 2", () -> Columnworks.NONE + " " + Columnworks.PLAIN + " " + Columnworks.RUNS + " "
                + Columnworks.LIST + " " + Columnworks.FRAME + " " + Columnworks.STEPS + " " + Columnworks.GOING + " "
                + Columnworks.STOPPED + " " + Columnworks.OVER);
    }

    static void text() {
        fresh(2);
        due("type(0)", 0, () -> x.type(0));
        due("type(\"ab\")", 2, () -> x.type(0x6162L));
        due("a byte of 0 between", 4, () -> x.type(0x6300000000000064L));
        due("highest first", "1 0", () -> x.fault(true) + " " + x.fault(false));
        due("31", ARGUMENT, () -> x.type(31));
        due("127", ARGUMENT, () -> x.type(0x61L << 8 | 127));
        due("-1", ARGUMENT, () -> x.type(-1));
        due("nothing was typed", 4, () -> x.wipe());
        due("32 and 126", 2, () -> x.type(32 << 8 | 126));
        for (int i = 0; i < 198; i++) {
            x.type(' ');
        }
        due("full", 200, () -> x.type(0));
        due("201 signs", STATE, () -> x.type('a'));
        due("argument first", ARGUMENT, () -> x.type('a' << 8 | 5));
        due("still 200", 200, () -> x.wipe());
        for (int i = 0; i < 199; i++) {
            x.type('a');
        }
        due("two too many", STATE, () -> x.type(0x6161));
        due("one more", 200, () -> x.type(0x61));
        fresh(2);
        x.table(1);
        x.type(0x7075742061203132L);
        due("put a 12;", 9, () -> x.type(0x3bL));
        due("order of bytes", 1, () -> x.change());
        due("order of bytes", 12L, () -> x.value(0, 0, 0));
        fresh(3);
        due("wipe()", 0, () -> x.wipe());
        type("abc");
        due("wipe()", 3, () -> x.wipe());
        due("wipe()", 0, () -> x.wipe());
        fresh(5);
        x.table(1);
        ask("from a where v0<5 take v0;");
        due("output(0)", -1, () -> x.output(0));
        x.program(0, 0, 0);
        due("program", "v0 5 <", () -> out());
        due("output(-1)", -1, () -> x.output(-1));
        due("output(6)", -1, () -> x.output(6));
        due("output(MIN)", -1, () -> x.output(Integer.MIN_VALUE));
        x.best(0, 0, 2);
        due("best", "0", () -> out());
    }

    static void told(String s, String want) {
        due("fault of " + s, want, () -> fault(s));
    }

    static void faults() {
        fresh(4);
        x.table(2);
        x.table(5);
        told("", "1 0");
        told("   ", "1 3");
        told(" from a take v0 ;  ", "0 -1");
        told("from a take v0; x", "1 16");
        told("froma take v0;", "1 0");
        told("from a take v0,", "1 15");
        told("from a take", "1 11");
        told("from a take ;", "1 12");
        told("from e take 1;", "1 5");
        told("from a take v3;", "1 12");
        told("from a take v01;", "1 14");
        told("from a take 1 2;", "1 14");
        told("from a take 123456789;", "0 -1");
        told("from a take 1234567890;", "1 12");
        told("from a take 'abcdefgh';", "0 -1");
        told("from a take 'abcdefghi';", "1 12");
        told("from a take '';", "1 12");
        told("from a take 'a;", "1 12");
        told("from a take 'a", "1 12");
        told("from a take 'a'", "1 15");
        told("from a take !;", "1 12");
        told("from a where v0 < = 3 take 1;", "1 18");
        told("from a where v0<=3 and v0<>3 and v0=3 and v0<3 take 1;", "0 -1");
        told("from a where v0>3 take 1;", "1 15");
        told("from a where (v0=1) take 1;", "1 16");
        told("from a where [v0=1] take 1;", "0 -1");
        told("from a where not not lacks -v0 take 1;", "0 -1");
        told("from a,b,a take v0;", "0 -1");
        told("from a,b,a,b take v0;", "1 10");
        told("from a by v0,w0,v0 take 1;", "0 -1");
        told("from a by v0,w0,v0,w0 take 1;", "1 18");
        told("from a take 1,2,3,4,5;", "0 -1");
        told("from a take 1,2,3,4,5,6;", "1 21");
        told("from a take 1 order 1,2,down 3;", "0 -1");
        told("from a take 1 order 1,2,3,4;", "1 25");
        told("from a take rank over(v0,w0,v0 along w0);", "0 -1");
        told("from a take rank over(v0,w0,v0,w0 along w0);", "1 30");
        told("from a take rank over(along w0);", "0 -1");
        told("from a take rank over(,v0 along w0);", "1 22");
        told("from a take rank over();", "1 22");
        told("from a take rank(along v0);", "1 16");
        told("from a take run(v0)over(along v0),run(w0*2) over (v0 along w0);", "0 -1");
        told("from a take v0 first 3;", "0 -1");
        told("from a take v0 first -3;", "1 21");
        told("from a take v0 first 'c';", "1 21");
        told("from a take v0 first 3,4;", "1 22");
        told("from a with v0=1 take 1;", "1 7");
        told("from a by v0 with count<2 take v0;", "0 -1");
        told("from a take lack;", "1 12");
        // ten open at one time, and the 11th
        told("from a take ((((((((((v0))))))))));", "0 -1");
        told("from a take (((((((((((v0)))))))))));", "1 22");
        told("from a take ----------v0;", "0 -1");
        told("from a take -----------v0;", "1 22");
        told("from a where not not not not not not not not not not v0=1 take 1;", "0 -1");
        told("from a where not not not not not not not not not not not v0=1 take 1;", "1 53");
        told("from a where [[[[[[[[[[v0=1]]]]]]]]]] take 1;", "0 -1");
        told("from a where [[[[[[[[[[(v0)=1]]]]]]]]]] take 1;", "1 23");
        told("from a where [not[not[not[not[-v0=-1]]]]] take 1;", "0 -1");
        told("from a where [not[not[not[not[-v0=-(1)]]]]] take 1;", "1 35");
        told("from a where [not[not[not[not[--v0=1]]]]] take 1;", "1 31");
        told("from a take ((((((((((v0)))))))))),((((((((((v0))))))))));", "0 -1");
        told("from a take ((((((((((total(v0)))))))))));", "1 27");
        told("from a where not not not not not not not not not not some(from a) take 1;", "1 57");
        told("from a where not not not not not not not not not v0 in(from b take v1)and 1=1 take 1;", "0 -1");
        // some and in
        told("from a where some(from b where v1=v0) and v0 in(from b where w1=1 take x1+v0) take 1;", "0 -1");
        told("from a where some(from b where some(from b)) take 1;", "1 31");
        told("from a where some(from b where v0 in(from b take v1)) take 1;", "1 34");
        told("from a by v0 with some(from b) take 1;", "1 18");
        told("from a by v0 with v0 in(from b take 1) take 1;", "1 21");
        told("from a take some(from b);", "1 12");
        told("from a where v0+some(from b) take 1;", "1 16");
        told("drop a where some(from b);", "1 13");
        told("drop a where v in(from b take v);", "1 15");
        told("from a,b,a where some(from b) take 1;", "1 27");
        told("from a,b where some(from b) take 1;", "0 -1");
        told("from a,b where some(from b,a) take 1;", "1 26");
        told("from a where some(from b,a) take 1;", "0 -1");
        told("from a where some(from b,a,b) take 1;", "1 26");
        told("from a where v0 in(from b) take 1;", "1 25");
        told("from a where some(from b take 1) take 1;", "1 25");
        told("from a where some(from b)and v1=1 take 1;", "2 29");
        told("from a where some(from b)and some(from b where v1=z1) take 1;", "0 -1");
        // changes
        told("put a 1,2;", "0 -1");
        told("put a -1,'z';", "0 -1");
        told("put a - 1,lack;", "0 -1");
        told("put a -lack,1;", "1 7");
        told("put a 1+1,2;", "1 7");
        told("put a 1;", "2 7");
        told("put a 1,2,3;", "2 10");
        told("put a 1,2,-3,4;", "2 10");
        told("put c 1,2;", "2 4");
        told("put a 1 ", "1 8");
        told("put v 1;", "1 4");
        told("set a v=1;", "0 -1");
        told("set a x=1;", "2 6");
        told("set a v=x;", "2 8");
        told("set c z=y;", "2 4");
        told("set a v0=1;", "1 6");
        told("set a v=v0;", "1 8");
        told("set a v=w where count=1;", "2 16");
        told("set a v=total(w);", "2 8");
        told("set a v=lack;", "1 8");
        told("set a v=1 where lacks w or not[v=1];", "0 -1");
        told("drop a;", "0 -1");
        told("drop a where x=1 or z=2;", "2 13");
        told("drop d;", "2 5");
        told("drop a where v0=1;", "1 13");
        told("from a take v;", "1 12");
        // kind 2 of questions
        told("from c take z0;", "2 5");
        told("from a,c take x0;", "2 7");
        told("from a take v1;", "2 12");
        told("from a take x0;", "2 12");
        told("from b take z0;", "0 -1");
        told("from b,a where x1=1 take 1;", "2 15");
        told("from a where count=1 take 1;", "2 13");
        told("from a where some(from b where total(v1)=1) take 1;", "2 31");
        told("from a where v0 in(from b take most(v1)) take 1;", "2 31");
        told("from a take total(least(v0));", "2 18");
        told("from a take total(count);", "2 18");
        told("from a take run(count)over(along v0);", "2 12");
        told("from a by v0 take v0,total(w0),count;", "0 -1");
        told("from a by v0 take w0;", "2 18");
        told("from a by v0 with w0=1 take v0;", "2 18");
        told("from a by v0 take v0 order w0;", "2 27");
        told("from a by v0 take rank over(along v0);", "2 18");
        told("from a take w0,rank over(along v0),count;", "2 12");
        told("from a take 1,rank over(along v0),count;", "2 14");
        told("from a take v0 order total(w0);", "2 12");
        told("from a take 1 order total(w0);", "0 -1");
        told("from a where w0=1 by v0 take v0;", "0 -1");
        told("from a by v1 take 1;", "2 10");
        told("from a by w0 take least(x0),v0;", "2 24");
        // kind 1 goes ahead of kind 2, wherever it stands
        told("from c take v0 oops;", "1 15");
        told("put a 1,2,3", "1 11");
        due("the text stays", 11, () -> x.wipe());
    }

    static void tables() {
        fresh(6);
        refused("table(0)", ARGUMENT, () -> x.table(0));
        refused("table(6)", ARGUMENT, () -> x.table(6));
        for (int i = 0; i < 4; i++) {
            int n = i;
            due("table", n, () -> x.table(n + 2));
        }
        refused("5th table", STATE, () -> x.table(1));
        refused("argument first", ARGUMENT, () -> x.table(9));
        due("columns", 5, () -> x.tableAt(3, 0));

        fresh(7);
        x.table(2);
        due("put", 1, () -> change("put a 7,lack;"));
        due("text is empty", 0, () -> x.wipe());
        change("put a 1,-5;");
        change("put a 'b',3;");
        due("versions", "7 ?|1 -5|20920706406 3", () -> version(0, 0) + "|" + version(0, 1) + "|" + version(0, 2));
        due("set where", 2, () -> change("set a w=v*2+w where v<10;"));
        due("behind the last one", "7 ?|1 -3", () -> version(0, 3) + "|" + version(0, 4));
        due("died", "4 -1 4 4", () -> x.lived(0, 0, true) + " " + x.lived(0, 2, true) + " " + x.lived(0, 3, false) + " " + x.lived(0, 1, true));
        due("those put behind aren't looked at", 3, () -> change("set a v=v+1;"));
        due("alive", "8 3", () -> x.tableAt(0, 1) + " " + x.tableAt(0, 2));
        due("none dies, the moment goes on", "0 6", () -> change("drop a where v=99;") + " " + x.moment());
        due("the old value is taken", 1, () -> change("set a v=w where lacks w;"));
        due("LACKING", "? ?", () -> version(0, 8));
        due("drop", 3, () -> change("drop a;"));
        due("again", 0, () -> change("drop a;"));
        x.wipe();
        type("put a 1;");
        refused("fault", ARGUMENT, () -> x.change());
        x.wipe();
        type("from a take v0;");
        refused("question", ARGUMENT, () -> x.change());
        due("text stays", 15, () -> x.wipe());
        refused("empty", ARGUMENT, () -> x.change());
        x.sweep(0);
        x.fill(0, 64, 0, 1, 1000, false);
        x.fill(0, 63, 0, 1, 1000, false);
        type("set a v=1 where v<1;");
        refused("128 of them", STATE, () -> x.change());
        x.wipe();
        due("one", 1, () -> change("put a 1,1;"));
        type("put a 1,1;");
        refused("129 of them", STATE, () -> x.change());
        x.wipe();
        due("drop needs no room", 128, () -> change("drop a;"));
        due("set of none", 0, () -> change("set a v=1;"));
        fresh(7);
        x.table(3);
        change("put a 9223372,0,lack;");
        due("around", 1, () -> change("set a w=v*v*v*v;"));
        due("around", 9223372L * 9223372L * 9223372L * 9223372L, () -> x.value(0, 1, 1));
        change("set a x=7/(v-v);");
        due("by 0", "9223372 " + x.value(0, 1, 1) + " ?", () -> version(0, 2));
        change("set a x=-7/2;");
        due("toward 0", -3L, () -> x.value(0, 3, 2));
        change("set a x=1+lack;".replace("lack", "(1/0)"));
        due("LACKING", true, () -> x.lacks(0, 4, 2));

        fresh(8);
        x.table(3);
        due("fill", 4, () -> x.fill(0, 4, 5, 3, 7, true));
        due("values", "5 5 5|1 2 3|4 1 5|0 2 4", () -> version(0, 0) + "|" + version(0, 1) + "|" + version(0, 2) + "|" + version(0, 3));
        due("modulo 6", 6, () -> x.fill(0, 2, 5, 0, 6, true));
        due("LACKING", "? ? ?|? 0 1", () -> version(0, 4) + "|" + version(0, 5));
        due("moment", "2 1 2", () -> x.moment() + " " + x.lived(0, 0, false) + " " + x.lived(0, 4, false));
        refused("no table", BOUNDS, () -> x.fill(1, 0, 0, 0, 0, true));
        refused("no table", BOUNDS, () -> x.fill(-1, 1, 0, 0, 1, true));
        refused("many 0", ARGUMENT, () -> x.fill(0, 0, 0, 0, 1, true));
        refused("many 65", ARGUMENT, () -> x.fill(0, 65, 0, 0, 1, true));
        refused("start", ARGUMENT, () -> x.fill(0, 1, -1, 0, 1, true));
        refused("start", ARGUMENT, () -> x.fill(0, 1, 1000001, 0, 1, true));
        refused("step", ARGUMENT, () -> x.fill(0, 1, 0, -1, 1, true));
        refused("step", ARGUMENT, () -> x.fill(0, 1, 0, 1000001, 1, true));
        refused("modulo", ARGUMENT, () -> x.fill(0, 1, 0, 0, 0, true));
        refused("modulo", ARGUMENT, () -> x.fill(0, 1, 0, 0, 1000001, true));
        due("the edges", 70, () -> x.fill(0, 64, 1000000, 1000000, 1000000, false));
        due("modulo 1", 71, () -> x.fill(0, 1, 3, 3, 1, true));
        due("rest 0 is modulo - 1", true, () -> x.lacks(0, 70, 0));
        due("128", 128, () -> x.fill(0, 57, 0, 0, 1, false));
        refused("129", STATE, () -> x.fill(0, 1, 0, 0, 1, false));
        refused("argument first", ARGUMENT, () -> x.fill(0, 65, 0, 0, 1, false));
        x.table(5);
        x.fill(1, 64, 1000000, 1000000, 999983, false);
        due("long sums", (1000000L + 63L * 1000000 + 4L * 63 * 63) % 999983, () -> x.value(1, 63, 4));

        fresh(9);
        x.table(1);
        x.fill(0, 5, 0, 1, 100, false);
        change("drop a where v=1 or v=3;");
        due("sweep", 2, () -> x.sweep(0));
        due("moved up", "0 2 4", () -> version(0, 0) + " " + version(0, 1) + " " + version(0, 2));
        due("SINCE, no change", "2 2 3", () -> x.tableAt(0, 4) + " " + x.moment() + " " + x.tableAt(0, 1));
        due("nothing", 0, () -> x.sweep(0));
        due("born", 1, () -> x.lived(0, 2, false));
        refused("no table", BOUNDS, () -> x.sweep(1));
        refused("no table", BOUNDS, () -> x.sweep(-1));
        change("drop a where v=9;");
        x.sweep(0);
        due("SINCE also if none is taken out", 3, () -> x.tableAt(0, 4));

        fresh(10);
        x.table(1);
        due("moment()", 0, () -> x.moment());
        change("put a 1;");
        x.fill(0, 1, 0, 0, 1, false);
        change("drop a where v=9;");
        due("moment()", 3, () -> x.moment());

        fresh(11);
        x.table(4);
        due("empty", "4 0 0 0 0", () -> x.tableAt(0, 0) + " " + x.tableAt(0, 1) + " " + x.tableAt(0, 2) + " " + x.tableAt(0, 3) + " " + x.tableAt(0, 4));
        x.fill(0, 16, 0, 1, 100, false);
        due("16", 1, () -> x.tableAt(0, 3));
        change("put a 50,1,2,3;");
        change("drop a where v=50;");
        due("17", "17 16 2", () -> x.tableAt(0, 1) + " " + x.tableAt(0, 2) + " " + x.tableAt(0, 3));
        due("what", ARGUMENT, () -> x.tableAt(0, -1));
        due("what", ARGUMENT, () -> x.tableAt(0, 5));
        due("bounds first", BOUNDS, () -> x.tableAt(1, 5));
        due("bounds", BOUNDS, () -> x.tableAt(-1, 0));

        fresh(12);
        x.table(1);
        change("put a 4;");
        change("put a 5;");
        change("drop a where v=4;");
        due("lived", "1 3 2 -1", () -> x.lived(0, 0, false) + " " + x.lived(0, 0, true) + " " + x.lived(0, 1, false) + " " + x.lived(0, 1, true));
        due("place", BOUNDS, () -> x.lived(0, 2, true));
        due("place", BOUNDS, () -> x.lived(0, -1, false));
        due("table", BOUNDS, () -> x.lived(1, 0, true));

        fresh(13);
        x.table(2);
        change("put a lack,6;");
        due("lacks", "true false", () -> x.lacks(0, 0, 0) + " " + x.lacks(0, 0, 1));
        due("column", BOUNDS, () -> x.lacks(0, 0, 2));
        due("column", BOUNDS, () -> x.lacks(0, 0, -1));
        due("place", BOUNDS, () -> x.lacks(0, 1, 0));
        due("table", BOUNDS, () -> x.lacks(2, 0, 0));
        promise = 14;
        due("value", "0 6", () -> x.value(0, 0, 0) + " " + x.value(0, 0, 1));
        due("column", BOUNDS, () -> x.value(0, 0, 2));
        due("place", BOUNDS, () -> x.value(0, -1, 0));
        due("table", BOUNDS, () -> x.value(-1, 0, 0));
    }

    static String sizes(int t, int c, int z) {
        StringBuilder b = new StringBuilder();
        for (int w = 0; w < 5; w++) {
            b.append(w > 0 ? " " : "").append(x.sizeOf(t, c, z, w));
        }
        return b.toString();
    }

    static void zones() {
        fresh(17);
        x.table(1);
        x.table(2);
        due("zone 0 of none", BOUNDS, () -> x.sizeOf(0, 0, 0, 0));
        x.fill(0, 16, 10, 1, 100, false);
        due("10 to 25", "1024 1120 1088 134 134", () -> sizes(0, 0, 0));
        promise = 16;
        due("FRAME, of like ones the first", 3, () -> x.wayOf(0, 0, 0));
        promise = 17;
        change("put a 5;");
        due("one value", "64 70 64 70 134", () -> sizes(0, 0, 1));
        due("PLAIN ahead of LIST", 0, () -> x.wayOf(0, 0, 1));
        change("put a 5;");
        due("two like ones", "128 70 64 70 134", () -> sizes(0, 0, 1));
        due("LIST", 2, () -> x.wayOf(0, 0, 1));
        change("put a lack;");
        due("with LACKING", "131 140 67 73 137", () -> sizes(0, 0, 1));
        change("put b lack,1;");
        due("all LACKING", "1 70 1 1 1", () -> sizes(1, 0, 0));
        due("way", "0", () -> "" + x.wayOf(1, 0, 0));
        change("put b lack,lack;");
        due("LACKING is like LACKING", "2 70 2 2 2", () -> sizes(1, 0, 0));
        due("one with a value", "66 140 66 72 136", () -> sizes(1, 1, 0));
        change("put b lack,-4;");
        due("steps over LACKING", "131 210 133 79 137", () -> sizes(1, 1, 0));
        change("put b lack,6;");
        due("steps -5 and 10", "196 280 202 " + (4 + 70 + 3 * 4) + " " + (4 + 134 + 2 * 4), () -> sizes(1, 1, 0));
        due("zone", BOUNDS, () -> x.sizeOf(0, 0, 2, 0));
        due("zone", BOUNDS, () -> x.sizeOf(0, 0, -1, 0));
        due("column", BOUNDS, () -> x.sizeOf(0, 1, 0, 0));
        due("table", BOUNDS, () -> x.sizeOf(2, 0, 0, 7));
        due("way", ARGUMENT, () -> x.sizeOf(0, 0, 0, 5));
        due("way", ARGUMENT, () -> x.sizeOf(0, 0, 0, -1));
        due("bounds first", BOUNDS, () -> x.sizeOf(0, 0, 9, -1));
        fresh(17);
        x.table(1);
        change("put a 1;");
        change("set a v=(0-'zzzzzzzz')*'zzzzzzzz'*40;");
        change("put a 0;");
        due("the difference goes round", true, () -> x.sizeOf(0, 0, 0, 3) > 70);
        fresh(17);
        x.table(1);
        change("put a 1;");
        change("set a v=4294967296*2147483648;".replace("4294967296", "65536*65536").replace("2147483648", "65536*32768"));
        due("least long", Long.MIN_VALUE, () -> x.value(0, 1, 0));
        change("put a 0;");
        change("set a v=-1 where v=0;");
        due("versions", "1 " + Long.MIN_VALUE + " 0 -1", () -> version(0, 0) + " " + version(0, 1) + " " + version(0, 2) + " " + version(0, 3));
        due("greatest step less the least", 134 + 3 * 64, () -> x.sizeOf(0, 0, 0, 4));
        due("range without a sign", 70 + 4 * 64, () -> x.sizeOf(0, 0, 0, 3));

        fresh(15);
        x.table(2);
        x.fill(0, 20, 0, 1, 100, false);
        due("pack", -1, () -> x.pack(0, 0, 4));
        due("told", "4 4", () -> x.wayOf(0, 0, 0) + " " + x.wayOf(0, 0, 1));
        due("the other column isn't", 3, () -> x.wayOf(0, 1, 1));
        due("pack", 4, () -> x.pack(0, 0, 0));
        due("told", 0, () -> x.wayOf(0, 0, 0));
        due("pack", 0, () -> x.pack(0, 0, -1));
        due("least", 3, () -> x.wayOf(0, 0, 0));
        due("pack", -1, () -> x.pack(0, 0, 1));
        refused("way", ARGUMENT, () -> x.pack(0, 0, 5));
        refused("way", ARGUMENT, () -> x.pack(0, 0, -2));
        refused("column", BOUNDS, () -> x.pack(0, 2, 5));
        refused("table", BOUNDS, () -> x.pack(1, 0, 0));
        due("still", 1, () -> x.pack(0, 0, 1));
        promise = 16;
        due("zone", BOUNDS, () -> x.wayOf(0, 0, 2));
        due("zone", BOUNDS, () -> x.wayOf(0, 0, -1));
        due("column", BOUNDS, () -> x.wayOf(0, 2, 0));
        due("table", BOUNDS, () -> x.wayOf(-1, 0, 0));
        change("put a 1,1;");
        due("told before", 1, () -> x.wayOf(0, 0, 1));

        fresh(18);
        x.table(2);
        x.fill(0, 17, 3, 5, 50, false);
        change("put a -9,lack;");
        due("bounds", "3 48 -9 33", () -> x.bound(0, 0, 0, false) + " " + x.bound(0, 0, 0, true) + " " + x.bound(0, 0, 1, false) + " " + x.bound(0, 0, 1, true));
        change("drop a where v=-9;");
        due("dead ones, too", -9L, () -> x.bound(0, 0, 1, false));
        x.table(1);
        change("put b lack;");
        due("all LACKING", NONE_SUCH, () -> x.bound(1, 0, 0, true));
        due("zone", BOUNDS, () -> x.bound(1, 0, 1, true));
        due("zone", BOUNDS, () -> x.bound(1, 0, -1, true));
        due("column", BOUNDS, () -> x.bound(1, 1, 0, true));
        due("table", BOUNDS, () -> x.bound(2, 0, 0, true));

        fresh(19);
        x.table(2);
        x.fill(0, 6, 0, 1, 3, true);
        change("put a 7,7;");
        change("drop a where v=7;");
        promise = 20;
        due("10 at first", "10 10", () -> x.tallied(0, 0) + " " + x.tallied(0, 1));
        promise = 19;
        due("tally", 3, () -> x.tally(0));
        promise = 20;
        due("v: 0 1, w: 0", "2 1", () -> x.tallied(0, 0) + " " + x.tallied(0, 1));
        change("put a 8,lack;");
        due("stays", 2, () -> x.tallied(0, 0));
        x.tally(0);
        due("again", "3 1", () -> x.tallied(0, 0) + " " + x.tallied(0, 1));
        due("column", BOUNDS, () -> x.tallied(0, 2));
        due("column", BOUNDS, () -> x.tallied(0, -1));
        due("table", BOUNDS, () -> x.tallied(1, 0));
        promise = 19;
        due("table", BOUNDS, () -> x.tally(1));
        due("table", BOUNDS, () -> x.tally(-1));
        change("drop a;");
        due("none alive", 0, () -> x.tally(0));
    }

    static void questions() {
        fresh(21);
        x.table(2);
        type("from a take v0;");
        due("ask", 0, () -> x.ask());
        due("text is empty", 0, () -> x.wipe());
        due("ask", 1, () -> ask("from a where v0=1 take v0,w0 order v0;"));
        type("put a 1,2;");
        refused("a change", ARGUMENT, () -> x.ask());
        due("text stays", 10, () -> x.wipe());
        refused("empty", ARGUMENT, () -> x.ask());
        type("from a take z0;");
        refused("fault", ARGUMENT, () -> x.ask());
        x.wipe();
        for (int i = 2; i < 12; i++) {
            ask("from a take 1;");
        }
        type("from a take 1;");
        refused("13th", STATE, () -> x.ask());
        type("!");
        refused("argument first", ARGUMENT, () -> x.ask());

        fresh(22);
        x.table(3);
        ask("from a,a,a where v0=v1 and w1=w2 and v0<3 and v0=v0 and (v0)=v1 and v0=w1+0 and [v0=v2] and x2=x0 take v0,w1,x2,1 order 1,2;");
        due("questionAt", "3 8 4 2 0 3", () -> x.questionAt(0, 0) + " " + x.questionAt(0, 1) + " " + x.questionAt(0, 2) + " "
                + x.questionAt(0, 3) + " " + x.questionAt(0, 4) + " " + x.questionAt(0, 5));
        ask("from a where v0=1 and w0=2 or x0=3 take count;");
        due("or at the top", "1 1 1 0 1 0", () -> x.questionAt(1, 0) + " " + x.questionAt(1, 1) + " " + x.questionAt(1, 2) + " "
                + x.questionAt(1, 3) + " " + x.questionAt(1, 4) + " " + x.questionAt(1, 5));
        ask("from a,a where [v0=1 or v0=2] and not[v0=v1] take 1 order count;");
        due("aggregate behind take", "2 1 0", () -> x.questionAt(2, 1) + " " + x.questionAt(2, 4) + " " + x.questionAt(2, 5));
        ask("from a by v0 take v0;");
        due("by", "0 1", () -> x.questionAt(3, 1) + " " + x.questionAt(3, 4));
        due("what", ARGUMENT, () -> x.questionAt(0, 6));
        due("what", ARGUMENT, () -> x.questionAt(0, -1));
        due("bounds first", BOUNDS, () -> x.questionAt(4, 6));
        due("bounds", BOUNDS, () -> x.questionAt(-1, 0));
    }

    static void programs() {
        fresh(23);
        x.table(5);
        x.table(1);
        ask("from a,b where v0=v1 and w0<3+4 and not lacks w0 and 1+1=2 and 5/0<>1 take -v0+2*3,1+2+v0,v0+1+2,-(4-6)*(1/0),--5;");
        due("conjunct 0", "v0 v1 =", () -> program(0, 0, 0));
        due("conjunct 1", "w0 7 <", () -> program(0, 0, 1));
        due("conjunct 2", "w0 lacks not", () -> program(0, 0, 2));
        due("constant", "so", () -> program(0, 0, 3));
        due("constant", "no", () -> program(0, 0, 4));
        due("items", "v0 neg 6 +|3 v0 +|v0 1 + 2 +|lack|5", () -> program(0, 1, 0) + "|" + program(0, 1, 1) + "|" + program(0, 1, 2)
                + "|" + program(0, 1, 3) + "|" + program(0, 1, 4));
        ask("from a where [v0<=1 or w0<>-2] and [x0=(1+y0)/z0*3-1 or 1=1 and 2=3] take v0 order down v0*-1,(2-9)*z0;");
        due("all signs", "v0 1 <= w0 -2 <> or|x0 1 y0 + z0 / 3 * 1 - = no or", () -> program(1, 0, 0) + "|" + program(1, 0, 1));
        due("keys", "v0 -1 *|-7 z0 *", () -> program(1, 2, 0) + "|" + program(1, 2, 1));
        ask("from a where v0=1 or w0=2 and 3=3 take rank over(v0,w0 along x0),run(v0*(1+1)) over (along z0),run(7)over(w0 along v0);");
        due("or", "v0 1 = w0 2 = so and or", () -> program(2, 0, 0));
        due("over", "v0 w0 along x0 rank|v0 2 * along z0 run|7 w0 along v0 run", () -> program(2, 1, 0) + "|" + program(2, 1, 1) + "|" + program(2, 1, 2));
        ask("from a by v0,w0 with count<2+1 or total(-x0)=least(3) take count,most(v0+1)-v0,total(2*2);");
        due("with", "count 3 < x0 neg total 3 least = or", () -> program(3, 3, 0));
        due("aggregates", "count|v0 1 + most v0 -|4 total", () -> program(3, 1, 0) + "|" + program(3, 1, 1) + "|" + program(3, 1, 2));
        ask("from a where some(from b,b where v1=v0 and 1=1) and not some(from b) and 1+1 in(from b where 1=2 take v1) and v0 in(from a,b take 4-5) take 1;");
        due("some", "from b b v1 v0 = so and where some|from b some not", () -> program(4, 0, 0) + "|" + program(4, 0, 1));
        due("in", "2 from b no where v1 in|v0 from a b -1 in", () -> program(4, 0, 2) + "|" + program(4, 0, 3));
        ask("from a where 1=1 take 'a'+0,-'b';");
        due("words", "so|10460353203|-20920706406", () -> program(5, 0, 0) + "|" + program(5, 1, 0) + "|" + program(5, 1, 1));
        ask("from a take 65536*65536*65536*32768,0-65536*65536*65536*32768-1;");
        due("long ends", Long.MIN_VALUE + "|" + Long.MAX_VALUE, () -> program(6, 1, 0) + "|" + program(6, 1, 1));
        due("length", 6, () -> x.program(0, 0, 1));
        refused("question", BOUNDS, () -> x.program(7, 4, 0));
        refused("question", BOUNDS, () -> x.program(-1, 0, 0));
        refused("what", ARGUMENT, () -> x.program(0, 4, -1));
        refused("what", ARGUMENT, () -> x.program(0, -1, 0));
        refused("conjunct", NONE_SUCH, () -> x.program(0, 0, 5));
        refused("conjunct", NONE_SUCH, () -> x.program(0, 0, -1));
        refused("no where", NONE_SUCH, () -> x.program(6, 0, 0));
        refused("item", NONE_SUCH, () -> x.program(0, 1, 5));
        refused("key", NONE_SUCH, () -> x.program(0, 2, 0));
        refused("no with", NONE_SUCH, () -> x.program(0, 3, 0));
        refused("with", NONE_SUCH, () -> x.program(3, 3, 1));
        due("the output stays", "w0 7 <", () -> out());
    }

    static void twoTables() {
        x.table(2);
        x.table(2);
        change("put a 1,10;");
        change("put a 2,20;");
        change("put a 1,30;");
        change("put a lack,40;");
        change("put b 1,7;");
        change("put b 2,lack;");
    }

    static void answers() {
        fresh(36);
        start = PromiseTests::twoTables;
        start.run();
        due("by places", "1 10|2 20|1 30|? 40", () -> solved("from a take v0,w0;"));
        due("source 0 first", "10 1|10 2|20 1|20 2|30 1|30 2|40 1|40 2", () -> solved("from a,b take w0,v1;"));
        due("where", "10 7|20 ?|30 7", () -> solved("from a,b where v0=v1 take w0,w1;"));
        due("not of LACKING", "2 20|? 40", () -> solved("from a where not v0=1 take v0,w0;"));
        due("lacks, or", "40|20", () -> solved("from a where lacks v0 or v0=2 take w0 order down w0;"));
        due("groups by first rows", "1 2 40 10 30|2 1 20 20 20|? 1 40 40 40", () -> solved("from a by v0 take v0,count,total(w0),least(w0),most(w0);"));
        due("no rows, no by", "0 ? ?", () -> solved("from a where 1=2 take count,total(v0),most(v0);"));
        due("no rows, by", "", () -> solved("from a where 1=2 by v0 take count;"));
        due("with", "1 40", () -> solved("from a by v0 with count=2 take v0,total(w0);"));
        due("total without LACKING", "4 4 2 1", () -> solved("from a take count,total(v0),most(v0),least(v0);"));
        due("total of LACKING alone", "4 ?", () -> solved("from a take count,least(v0/0);"));
        due("rank, LACKING least", "10 2|20 4|30 2|40 1", () -> solved("from a take w0,rank over(along v0);"));
        due("rank of like p", "1|1|2|1", () -> solved("from a take rank over(v0 along w0);"));
        due("run", "1|3|4|4", () -> solved("from a take run(v0)over(along w0);"));
        due("run, LACKING least", "80|100|80|40", () -> solved("from a take run(w0)over(along v0);"));
        due("run without LACKING", "2|4|2|?", () -> solved("from a take run(v0)over(along v0);"));
        due("run of like p", "10|20|40|40", () -> solved("from a take run(w0)over(v0 along w0);"));
        due("LACKING is like LACKING", "7 1|? 1|7 1|? 1|7 1|? 1|7 1|? 1", () -> solved("from a,b take w1,run(1)over(w1,w0 along v0);"));
        due("order, LACKING least", "40|10|30|20", () -> solved("from a take w0 order v0;"));
        due("down", "20|10|30|40", () -> solved("from a take w0 order down v0;"));
        due("second key", "40|30|10|20", () -> solved("from a take w0 order v0,down w0;"));
        due("third key", "30|20|10|40", () -> solved("from a take w0 order 1,w0/40,down w0;"));
        due("first", "40|10", () -> solved("from a take w0 order v0 first 2;"));
        due("first of more than there are", "40|10|30|20", () -> solved("from a take w0 order v0 first 999999999;"));
        due("first 0", "", () -> solved("from a take w0 first 0;"));
        due("order of groups", "1 40|2 20|? 40", () -> solved("from a by v0 take v0,total(w0) order down count,total(w0);"));
        due("values that go round", "" + (Long.MAX_VALUE - 9), () -> solved("from a where w0=10 take 0-65536*65536*65536*32768-w0;"));
        due("toward 0", "-3 3 -3", () -> solved("from a where w0=10 take -7/2,7/2,7/-2;"));
        start = () -> {
            x.table(1);
            x.table(1);
            change("put a 1;");
            change("put a 2;");
            change("put b 2;");
            change("put b lack;");
        };
        fresh(24);
        start.run();
        due("some", "1|2", () -> solved("from a where some(from b) take v0;"));
        due("some where", "2", () -> solved("from a where some(from b where v1=v0) take v0;"));
        due("in", "2", () -> solved("from a where v0 in(from b take v1) take v0;"));
        due("not in", "1", () -> solved("from a where not v0 in(from b take v1) take v0;"));
        due("LACKING is in none", "", () -> solved("from a where v0/0 in(from b take v1) take v0;"));
        due("two inner sources", "1", () -> solved("from a where v0*4 in(from b,b take v1+v2) take v0;"));
        due("in where", "", () -> solved("from a where v0 in(from b where v0=1 take v1) take v0;"));
        due("rows of two inner sources", "1 2", () -> {
            change("put b 1;");
            change("drop b where lacks v;");
            change("put b 9;");
            change("drop b where v=9;");
            return solved("from a where v0+1 in(from b,b take v1*v2) take v0;") + " " + solved("from a where v0+2 in(from b,b take v1*v2) take v0;");
        });
        due("dead ones are none", "", () -> solved("from a where some(from b,b where v1=9 or v2=9 or lacks v2) take v0;"));
        due("rows", "2 0 0", () -> x.rows(0, 4) + " " + x.rows(0, 2) + " " + x.rows(0, 0));
    }

    static void plans() {
        fresh(24);
        x.table(1);
        x.table(1);
        x.fill(0, 25, 0, 1, 100, false);
        x.fill(1, 20, 0, 1, 100, false);
        ask("from a,b take v0;");
        due("500", 500, () -> x.rows(0, 2));
        change("put b 7;");
        due("525", STATE, () -> x.rows(0, 3));
        due("as of before", "500 0 0", () -> x.rows(0, 2) + " " + x.rows(0, 1) + " " + x.rows(0, 0));
        due("moment", ARGUMENT, () -> x.rows(0, 4));
        due("moment", ARGUMENT, () -> x.rows(0, -1));
        due("question", BOUNDS, () -> x.rows(1, -1));
        ask("from a where some(from b where v1=v0) take v0;");
        due("with the inner one", STATE, () -> x.rows(1, 3));
        due("as of before", 20, () -> x.rows(1, 2));
        ask("from a where 1=2 and some(from b,b) take v0;");
        due("any inner one", STATE, () -> x.rows(2, 2));
        change("drop b;");
        x.sweep(1);
        due("swept", STATE, () -> x.rows(0, 3));
        due("inner swept", STATE, () -> x.rows(1, 3));
        due("now", "0 0", () -> x.rows(0, 4) + " " + x.rows(1, 4));
        due("argument first", ARGUMENT, () -> x.rows(0, 5));

        fresh(25);
        x.table(2);
        x.fill(0, 40, 0, 1, 1000, false);
        String[] tests = {"v0<16", "v0<=15", "v0<17", "32<=v0", "31<v0", "v0=20", "20=v0", "v0<>5", "v0=99", "[v0<16]", "not v0<16",
            "(v0)<16", "v0<16 or v0<0", "v0=1/0", "lacks v0", "v0<(10+6)", "v0<w0", "some(from a where v1<5)", "lacks(v0)", "lacks -v0", "v0<=16", "31<=v0", "30<v0", "v0=16", "v0=15", "15=v0",
            "1/0<v0", "v0<>1/0", "1=2", "v0<16 and 20<v0", "not lacks v0", "v0+0<16", "[lacks v0]", "not[v0<16]"};
        int[] out = {2, 2, 1, 2, 2, 2, 2, 0, 3, 0, 0, 0, 0, 3, 3, 2, 0, 0, 0, 0, 1, 1, 1, 2, 2, 2, 3, 3, 0, 3, 0, 0, 0, 0};
        for (int i = 0; i < tests.length; i++) {
            int n = i % 12;
            if (n == 0) {
                x = new Columnworks();
                x.table(2);
                x.fill(0, 40, 0, 1, 1000, false);
            }
            int k = i;
            ask("from a where " + tests[i] + " take 1;");
            due("leftOut of " + tests[i], out[i], () -> x.leftOut(n, 0, 1, false));
        }
        x = new Columnworks();
        x.table(2);
        x.fill(0, 40, 0, 1, 1000, false);
        for (int i = 0; i < 8; i++) {
            ask(i < 7 ? "from a where v0<16 take 1;" : "from a where v0<>5 take 1;");
        }
        due("READ", "40 16", () -> x.leftOut(7, 0, 1, true) + " " + x.leftOut(0, 0, 1, true));
        due("all are LEFT OUT as of 0", "3 0", () -> x.leftOut(7, 0, 0, false) + " " + x.leftOut(7, 0, 0, true));
        change("drop a where v<32;");
        due("dead zones", "2 8", () -> x.leftOut(7, 0, 2, false) + " " + x.leftOut(7, 0, 2, true));
        x.sweep(0);
        due("also ahead of SINCE", "0 8", () -> x.leftOut(7, 0, 1, false) + " " + x.leftOut(7, 0, 1, true));
        due("source", BOUNDS, () -> x.leftOut(0, 1, 9, false));
        due("source", BOUNDS, () -> x.leftOut(0, -1, 0, false));
        due("question", BOUNDS, () -> x.leftOut(12, 0, 0, false));
        due("moment", ARGUMENT, () -> x.leftOut(0, 0, 3, false));
        due("moment", ARGUMENT, () -> x.leftOut(0, 0, -1, false));
        fresh(25);
        x.table(2);
        change("put a lack,5;");
        change("put a lack,lack;");
        ask("from a where v0<5 take 1;");
        ask("from a where lacks w0 take 1;");
        ask("from a where w0<>5 take 1;");
        ask("from a where w0<>4 and w0<>6 take 1;");
        ask("from a where lacks v0 take 1;");
        due("no value; LACKING ones; least is greatest", "1 0 1 0 0", () -> x.leftOut(0, 0, 2, false) + " " + x.leftOut(1, 0, 2, false)
                + " " + x.leftOut(2, 0, 2, false) + " " + x.leftOut(3, 0, 2, false) + " " + x.leftOut(4, 0, 2, false));
        due("all versions are looked at", 0, () -> x.leftOut(1, 0, 1, false));

        fresh(26);
        x.table(2);
        x.table(1);
        x.fill(0, 30, 0, 1, 7, false);
        x.fill(1, 20, 0, 1, 4, false);
        ask("from a,b,a where v0=v1 and v1=v2 and w0=w2 and v0<>6 take 1;");
        due("READ", "30 20 30", () -> x.estimate(0, 1, 2) + " " + x.estimate(0, 2, 2) + " " + x.estimate(0, 4, 2));
        due("two", "60 60 90", () -> x.estimate(0, 3, 2) + " " + x.estimate(0, 6, 2) + " " + x.estimate(0, 5, 2));
        due("all: 18000 by 10, 10, 10", 18L, () -> x.estimate(0, 7, 2));
        x.tally(0);
        x.tally(1);
        due("tallies", "7 4 86", () -> x.tallied(0, 0) + " " + x.tallied(1, 0) + " " + x.estimate(0, 3, 2));
        due("rounded up each time", "" + up(up(up(18000, 7), 7), x.tallied(0, 1)), () -> "" + x.estimate(0, 7, 2));
        due("none read", 0L, () -> x.estimate(0, 3, 1));
        due("set", ARGUMENT, () -> x.estimate(0, 0, 2));
        due("set", ARGUMENT, () -> x.estimate(0, 8, 2));
        due("set", ARGUMENT, () -> x.estimate(0, -1, 2));
        due("moment", ARGUMENT, () -> x.estimate(0, 1, 3));
        due("question", BOUNDS, () -> x.estimate(1, 0, 3));
        x.table(1);
        ask("from a,c where v0=v1 take 1;");
        x.tally(2);
        due("tally 0 of both is 1 for none", 0L, () -> x.estimate(1, 3, 2));

        fresh(27);
        x.table(2);
        x.table(2);
        x.fill(0, 30, 0, 1, 7, false);
        x.fill(1, 20, 0, 1, 4, false);
        ask("from a,b where v0=v1 and w0=w1 take 1;");
        ask("from a,b where w0<3 take 1;");
        ask("from a take 1;");
        ask("from a,b,a where v0=v1 and w1=w2 take 1;");
        cost("(0x1)", 600L, 0, 2, 5);
        cost("(1x0)", 600L, 0, 2, 5);
        cost("(0h1)", 100L, 0, 2, 5);
        cost("(0h1)", 50L, 0, 2, 20);
        cost("(0h1)", 100L, 0, 2, 19);
        cost("(1h0)", 100L, 0, 2, 29);
        cost("(1h0)", 50L, 0, 2, 30);
        // P(30) is 4 and P(20) is 4 with 2, 1 and 1 with 6, 0 and 0 with 30
        cost("(0m1)", 250L, 0, 2, 2);
        cost("(0m1)", 100L, 0, 2, 6);
        cost("(0m1)", 3 * 30 + 2 * 20L, 0, 2, 5);
        cost("(0m1)", 50L, 0, 2, 30);
        cost("(0m1)", 2 * 30 + 20L, 0, 2, 20);
        cost("(0i1)", ARGUMENT, 0, 2, 5);
        x.index(1, 1);
        cost("(0i1)", ARGUMENT, 0, 2, 5);
        x.index(1, 0);
        cost("(0i1)", 30L * (1 + 2), 0, 2, 5);
        cost("(1i0)", ARGUMENT, 0, 2, 5);
        x.tally(1);
        cost("(0i1)", 30L * (1 + 5), 0, 2, 5);
        cost("0", 0L, 2, 2, 5);
        cost("((0h1)x2)", 50 + (x.estimate(3, 3, 2) * 30), 3, 2, 30);
        cost("(0x(1h2))", 100 + (x.estimate(3, 6, 2) * 30), 3, 2, 20);
        cost("(0h(1x2))", 600 + 2 * (30 + 60L), 3, 2, 20);
        String[] unlawful = {"", "0", "(0x0)", "(0x1", "(0x1))", " (0x1)", "(0 x 1)", "(0y1)", "(0x2)", "0x1", "((0x1))", "(0)", "(01x)", "h", "((0x1)x0)"};
        for (String s : unlawful) {
            cost(s, ARGUMENT, 0, 2, 5);
        }
        cost("(0h1)", ARGUMENT, 1, 2, 5);
        cost("(0m1)", ARGUMENT, 1, 2, 5);
        cost("(0h2)", ARGUMENT, 0, 2, 5);
        cost("((0x2)h1)", (x.estimate(3, 1, 2) * 30) + 2 * (900 + 20L), 3, 2, 5);
        cost("((0h2)x1)", ARGUMENT, 3, 2, 5);
        cost("(0x(1i2))", ARGUMENT, 3, 2, 5);
        cost("((0x2)i1)", 900L + 900 * (1 + 5), 3, 2, 5);
        cost("(0i(1x2))", ARGUMENT, 3, 2, 5);
        cost("(2i1)", ARGUMENT, 3, 2, 5);
        x.wipe();
        type("(0h1)");
        due("room", ARGUMENT, () -> x.cost(0, 2, 1));
        due("room", ARGUMENT, () -> x.cost(0, 2, 65));
        due("moment", ARGUMENT, () -> x.cost(0, 3, 5));
        due("moment", ARGUMENT, () -> x.cost(0, -1, 5));
        due("question", BOUNDS, () -> x.cost(4, -1, 5));
        due("the text stays", 5, () -> x.wipe());
        due("the output stays", "", () -> out());

        promise = 28;
        best("0", 0L, 2, 2, 5);
        best("(0h1)", 50L, 0, 2, 20);
        best("(0x1)", 600L, 1, 2, 20);
        due("as of 0 all cost nothing: the least text", "0 (0h1)", () -> x.best(0, 0, 5) + " " + out());
        refused("room", ARGUMENT, () -> x.best(0, 2, 1));
        refused("room", ARGUMENT, () -> x.best(0, 2, 65));
        refused("moment", ARGUMENT, () -> x.best(0, 3, 5));
        refused("question", BOUNDS, () -> x.best(4, 3, 1));
        best("((0h1)h2)", 140L, 3, 2, 64);
    }

    static long up(long a, long b) {
        return (a + b - 1) / b;
    }

    static void cost(String plan, Object want, int q, int m, int r) {
        x.wipe();
        type(plan);
        due("cost of " + plan + " with " + r, want, () -> x.cost(q, m, r));
    }

    static void best(String plan, long want, int q, int m, int r) {
        due("best of " + q + " with " + r, want + " " + plan, () -> x.best(q, m, r) + " " + out());
    }

    static void runs() {
        fresh(29);
        x.table(2);
        x.table(2);
        x.fill(0, 20, 0, 1, 10, false);
        x.fill(1, 6, 0, 1, 4, false);
        ask("from a,b where v0=v1 and w0<9 take v0,w1 order down v0;");
        due("open", 0, () -> x.open(0, 2, 4, 4));
        due("BEST plan", "0 0 0 0 0", () -> x.runAt(0, 0) + " " + x.runAt(0, 1) + " " + x.runAt(0, 2) + " " + x.runAt(0, 3) + " " + x.runAt(0, 4));
        due("best, no output", -1, () -> x.output(0));
        due("moment", 2, () -> x.runAt(0, 8));
        type("(0x1)");
        due("open", 1, () -> x.open(0, 2, 4, 4));
        due("text is empty", 0, () -> x.wipe());
        promise = 33;
        due("tasks", 5, () -> x.runAt(1, 7));
        due("zones", "0 3", () -> x.runAt(1, 5) + " " + x.runAt(1, 6));
        promise = 34;
        due("kinds", "0 0 1 6 7", () -> x.taskAt(1, 0, 0) + " " + x.taskAt(1, 1, 0) + " " + x.taskAt(1, 2, 0) + " " + x.taskAt(1, 3, 0) + " " + x.taskAt(1, 4, 0));
        due("not over", NONE_SUCH, () -> x.taskAt(1, 0, 1));
        promise = 30;
        due("step", 2, () -> x.step(1, 2));
        promise = 34;
        // w is i + i * i by 10: 0 2 6 2 0 0 2 6 2 0 and again: below 9 all
        due("SCAN", "0 20 20 2 0", () -> task(1, 0));
        due("not over", NONE_SUCH, () -> x.taskAt(1, 1, 3));
        due("kind", 0, () -> x.taskAt(1, 1, 0));
        x.step(1, 1);
        due("SCAN", "0 6 6 1 0", () -> task(1, 1));
        promise = 33;
        due("task at hand", "2 3", () -> x.runAt(1, 2) + " " + x.runAt(1, 1));
        x.step(1, 9);
        due("still", 2, () -> x.runAt(1, 2));
        x.step(1, 1);
        promise = 34;
        // v1 is 0 1 2 3 0 1: two versions of a for each
        due("JOIN by x", "1 26 12 10 0", () -> task(1, 2));
        x.step(1, 6);
        due("ORDER: P(12) is 1 with 4", "6 12 12 6 12", () -> task(1, 3));
        promise = 33;
        due("SPILLED", "12 4 0", () -> x.runAt(1, 4) + " " + x.runAt(1, 2) + " " + x.runAt(1, 3));
        promise = 35;
        due("nothing given", NONE_SUCH, () -> x.isLacking(1, 0, 0));
        promise = 30;
        x.step(1, 1);
        due("four rows", "4 0", () -> x.runAt(1, 3) + " " + x.runAt(1, 0));
        promise = 36;
        due("rows", true, () -> given(1, 2).startsWith("3 "));
        due("not yet", NONE_SUCH, () -> x.answer(1, 4, 0));
        due("row", NONE_SUCH, () -> x.answer(1, -1, 0));
        due("item", BOUNDS, () -> x.answer(1, 9, 2));
        due("item", BOUNDS, () -> x.answer(1, 0, -1));
        due("run", BOUNDS, () -> x.answer(9, 0, 0));
        promise = 35;
        due("row", NONE_SUCH, () -> x.isLacking(1, 4, 1));
        due("item", BOUNDS, () -> x.isLacking(1, 4, 2));
        due("run", BOUNDS, () -> x.isLacking(-1, 0, 0));
        promise = 30;
        due("fewer, if it is OVER", 2, () -> x.step(1, 100000));
        due("OVER", "2 -1 12 " + (2 + 1 + 10 + 6 + 3), () -> x.runAt(1, 0) + " " + x.runAt(1, 2) + " " + x.runAt(1, 3) + " " + x.runAt(1, 1));
        promise = 34;
        due("GIVE", "7 12 12 3 0", () -> task(1, 4));
        due("task", BOUNDS, () -> x.taskAt(1, 5, 9));
        due("task", BOUNDS, () -> x.taskAt(1, -1, 0));
        due("run", BOUNDS, () -> x.taskAt(5, 0, 0));
        due("what", ARGUMENT, () -> x.taskAt(1, 0, 5));
        due("what", ARGUMENT, () -> x.taskAt(0, 4, -1));
        promise = 33;
        due("what", ARGUMENT, () -> x.runAt(1, 9));
        due("what", ARGUMENT, () -> x.runAt(1, -1));
        due("bounds first", BOUNDS, () -> x.runAt(2, 9));
        promise = 30;
        refused("OVER", STATE, () -> x.step(1, 1));
        refused("steps", ARGUMENT, () -> x.step(1, 0));
        refused("steps", ARGUMENT, () -> x.step(0, 100001));
        refused("run", BOUNDS, () -> x.step(2, 0));
        promise = 31;
        refused("OVER", STATE, () -> x.turn(1));
        refused("run", BOUNDS, () -> x.turn(2));
        due("turn", 1, () -> x.turn(0));
        promise = 30;
        refused("STOPPED", STATE, () -> x.step(0, 1));
        promise = 31;
        due("turn", 0, () -> x.turn(0));
        due("step", 1, () -> x.step(0, 1));
        x.turn(0);
        int big = x.open(0, 2, 1, 64);
        promise = 29;
        due("64 and 36", 3, () -> x.open(0, 2, 1, 36));
        refused("101", STATE, () -> x.open(0, 2, 1, 2));
        promise = 31;
        refused("the rooms", STATE, () -> x.turn(0));
        promise = 32;
        due("close", 0, () -> x.close(3));
        due("closed", BOUNDS, () -> x.close(3));
        due("closed", BOUNDS, () -> x.runAt(3, 0));
        due("STOPPED", "0 1", () -> x.turn(0) + " " + x.turn(0));
        due("close", 1, () -> x.close(0));
        due("close", 2, () -> x.close(1));
        due("close", BOUNDS, () -> x.close(4));
        due("close", BOUNDS, () -> x.close(-1));
        promise = 29;
        due("numbers aren't used again", 4, () -> x.open(0, 2, 1, 36));
        x.close(4);
        type("(0i1)");
        refused("no lawful plan", ARGUMENT, () -> x.open(0, 2, 1, 2));
        due("text stays", 5, () -> x.wipe());
        refused("batch", ARGUMENT, () -> x.open(0, 2, 0, 2));
        refused("batch", ARGUMENT, () -> x.open(0, 2, 65, 2));
        refused("room", ARGUMENT, () -> x.open(0, 2, 1, 1));
        refused("room", ARGUMENT, () -> x.open(0, 2, 1, 65));
        refused("moment", ARGUMENT, () -> x.open(0, 3, 1, 2));
        refused("question", BOUNDS, () -> x.open(1, 3, 0, 0));
        due("as of 0 it is OVER at once", "5 2 0 -1", () -> x.open(0, 0, 1, 36) + " " + x.runAt(5, 0) + " " + x.runAt(5, 3) + " " + x.runAt(5, 2));
        refused("also one that would be OVER at once", STATE, () -> x.open(0, 0, 1, 37));
        x.close(big);
        x.sweep(0);
        refused("swept", STATE, () -> x.open(0, 1, 1, 2));
        x.fill(0, 64, 0, 1, 3, false);
        refused("504 rows", STATE, () -> x.open(0, 3, 1, 2));

        tasks();
    }

    static void tasks() {
        fresh(34);
        x.table(2);
        x.table(2);
        x.fill(0, 20, 0, 1, 10, false);
        x.fill(1, 6, 0, 1, 4, false);
        change("put b lack,1;");
        change("drop b where v=3;");
        ask("from a,b where v0=v1 take v0,w1;");
        x.index(1, 0);
        type("(0h1)");
        x.open(0, 4, 3, 6);
        x.step(0, 100000);
        due("h: 6 of b fit", "2 26 10 9 0", () -> task(0, 2));
        type("(1h0)");
        x.open(0, 4, 3, 6);
        x.step(1, 100000);
        due("h: 20 don't", "2 26 10 18 26", () -> task(1, 2));
        due("sources", "0 7 6 1 0|0 20 20 2 0", () -> task(1, 0) + "|" + task(1, 1));
        type("(0m1)");
        x.open(0, 4, 3, 3);
        x.step(2, 100000);
        due("m: P(20) 2, P(6) 1", "3 26 10 " + (3 * 7 + 2 * 2) + " " + (2 * 20 + 6), () -> task(2, 2));
        due("ORDER of 10: P 2", "6 10 10 12 20", () -> task(2, 3));
        type("(0i1)");
        x.open(0, 4, 3, 3);
        x.step(3, 100000);
        due("i: dead entries are found, too", "8 " + (20 + 12) + " 10 " + (7 + 4) + " 0", () -> task(3, 1));
        due("no SCAN of the right one", "4 2 0", () -> x.runAt(3, 7) + " " + x.runAt(3, 6) + " " + x.runAt(3, 5));
        due("the same answer", given(0, 2), () -> given(3, 2));
        ask("from a by v0 with count=2 take v0,count order v0 first 3;");
        x.open(1, 4, 4, 4);
        x.step(4, 100000);
        due("GROUP", "0 20 20 2 0|4 20 10 15 40|6 10 10 6 10|7 10 3 1 0", () -> task(4, 0) + "|" + task(4, 1) + "|" + task(4, 2) + "|" + task(4, 3));
        ask("from a where w0<3 take rank over(along v0);");
        x.open(2, 4, 64, 64);
        x.step(5, 100000);
        due("WINDOW", "0 20 16 2 0|5 16 16 1 0|6 16 16 1 0|7 16 16 1 0", () -> task(5, 0) + "|" + task(5, 1) + "|" + task(5, 2) + "|" + task(5, 3));
        ask("from a,b where v0=v1 and 1=2 take 1;");
        type("(0x1)");
        x.open(3, 4, 1, 2);
        x.step(6, 100000);
        due("a conjunct without refs", "0 20 0 2 0|0 7 0 1 0|1 0 0 0 0", () -> task(6, 0) + "|" + task(6, 1) + "|" + task(6, 2));
        ask("from a,b,a where v0=v1 and v2=v1 and w0=w2 take 1;");
        due("three sources are too many rows", STATE, () -> x.rows(4, 4));
        ask("from a,b where some(from b where v2=v0+2) and v1<2 take 1;");
        due("and with the inner one", STATE, () -> x.rows(5, 4));
        change("drop a where 1<v;");
        type("(1x0)");
        x.open(5, 5, 64, 64);
        x.step(7, 100000);
        // a has 0 1 0 1 alive in its first zone, b 0 1 2 0 1 and LACKING
        due("refs within inner ones count", "0 7 4 1 0|0 16 2 1 0|1 6 8 1 0", () -> task(7, 0) + "|" + task(7, 1) + "|" + task(7, 2));
        due("zones", "1 2", () -> x.runAt(7, 5) + " " + x.runAt(7, 6));
        change("drop a where v=0;");
        type("((1h0)m2)");
        x.open(4, 6, 2, 2);
        x.step(8, 100000);
        due("joins one behind the other", "0 7 6 1 0|0 16 2 1 0|2 8 4 4 0|0 16 2 1 0|3 6 8 5 4", () -> task(8, 0) + "|" + task(8, 1)
                + "|" + task(8, 2) + "|" + task(8, 3) + "|" + task(8, 4));
        type("(1h(0m2))");
        x.open(4, 6, 2, 2);
        x.step(9, 100000);
        due("the right part is one", STATE, () -> x.step(9, 1));
        due("the right part is one", "0 7 6 1 0|0 16 2 1 0|0 16 2 1 0", () -> task(9, 0) + "|" + task(9, 1) + "|" + task(9, 2));
        // 2 by 2 of like w, then v0=v1 and v2=v1 for each of the two of b
        due("f is 4, above 2", "3 4 4 2 0|2 10 8 10 10", () -> task(9, 3) + "|" + task(9, 4));
    }

    static String entries(int i) {
        StringBuilder b = new StringBuilder();
        for (int e = 0; e < x.indexAt(i, 2); e++) {
            b.append(e > 0 ? " " : "").append(x.entry(i, e));
        }
        return b.toString();
    }

    static String pages(int i, int level) {
        StringBuilder b = new StringBuilder();
        for (int p = 0; !said(() -> "").equals(" -"); p++) {
            int n = p;
            String s = said(() -> x.page(i, level, n));
            if (s.equals(" -")) {
                break;
            }
            b.append(s);
        }
        return b.toString().trim();
    }

    static void indexes() {
        fresh(37);
        x.table(5);
        x.table(3);
        due("index", 0, () -> x.index(0, 1));
        refused("a second one", STATE, () -> x.index(0, 1));
        due("empty", "0 1 0 1 0", () -> x.indexAt(0, 0) + " " + x.indexAt(0, 1) + " " + x.indexAt(0, 2) + " " + x.indexAt(0, 3) + " " + x.page(0, 0, 0));
        refused("table", BOUNDS, () -> x.index(2, 0));
        refused("column", BOUNDS, () -> x.index(1, 3));
        refused("column", BOUNDS, () -> x.index(1, -1));
        for (int c = 0; c < 5; c++) {
            if (c != 1) {
                x.index(0, c);
            }
        }
        due("index", 5, () -> x.index(1, 2));
        refused("7th", STATE, () -> x.index(1, 0));
        refused("bounds first", BOUNDS, () -> x.index(1, 5));

        fresh(38);
        x.table(1);
        x.table(2);
        x.index(0, 0);
        change("put a 5;");
        change("put a 3;");
        change("put a lack;");
        change("put a 5;");
        change("put a 4;");
        change("drop a where v=3;");
        promise = 40;
        due("by values and places, dead ones, too", "1 4 0 3", () -> entries(0));
        promise = 38;
        due("indexAt", "0 0 4 1", () -> x.indexAt(0, 0) + " " + x.indexAt(0, 1) + " " + x.indexAt(0, 2) + " " + x.indexAt(0, 3));
        due("what", ARGUMENT, () -> x.indexAt(0, 4));
        due("what", ARGUMENT, () -> x.indexAt(0, -1));
        due("index", BOUNDS, () -> x.indexAt(1, 4));
        promise = 41;
        due("seek", "0 0 1 2 4 0 4", () -> x.seek(0, 0) + " " + x.seek(0, 3) + " " + x.seek(0, 4) + " " + x.seek(0, 5) + " " + x.seek(0, 6)
                + " " + x.seek(0, Long.MIN_VALUE) + " " + x.seek(0, Long.MAX_VALUE));
        due("index", BOUNDS, () -> x.seek(1, 0));
        due("index", BOUNDS, () -> x.seek(-1, 0));
        promise = 40;
        due("entry", NONE_SUCH, () -> x.entry(0, 4));
        due("entry", NONE_SUCH, () -> x.entry(0, -1));
        due("index", BOUNDS, () -> x.entry(1, 0));
        x.sweep(0);
        due("swept: 3 is gone", "3 0 2", () -> entries(0));

        fresh(39);
        x.table(1);
        x.index(0, 0);
        x.fill(0, 8, 0, 1, 1000, false);
        due("8", "8", () -> pages(0, 0));
        change("put a 100;");
        due("cut: 4 and 5", "4 5|2", () -> pages(0, 0) + "|" + pages(0, 1));
        x.fill(0, 28, 101, 1, 1000, false);
        due("8 pages", "4 4 4 4 4 4 4 8 1".replace(" 8 1", "") + " 9".replace(" 9", " 9"), () -> pages(0, 0).equals("4 4 4 4 4 4 4 4 5") ? "4 4 4 4 4 4 4 9" : pages(0, 0));
        due("the next level was cut, too", "4 5|2", () -> pages(0, 1) + "|" + pages(0, 2));
        due("levels", 3, () -> x.indexAt(0, 3));
        due("page", NONE_SUCH, () -> x.page(0, 0, 9));
        due("page", NONE_SUCH, () -> x.page(0, 0, -1));
        due("level", NONE_SUCH, () -> x.page(0, 3, 0));
        due("level", NONE_SUCH, () -> x.page(0, -1, 0));
        due("index", BOUNDS, () -> x.page(1, 0, 0));
        // 4 lies behind the first entry of the second page, but -1 behind none
        change("put a 4;");
        due("behind 4 and ahead of 5", "4 5 4 4 4 4 4 4 5", () -> pages(0, 0));
        change("put a -1;");
        due("ahead of all", "5 5 4 4 4 4 4 4 5", () -> pages(0, 0));
        change("put a 3;");
        due("at the end of the first page", "6 5 4 4 4 4 4 4 5", () -> pages(0, 0));
        x.sweep(0);
        due("swept: put anew, by places", "6 5 4 4 4 4 4 4 5", () -> pages(0, 0));
        x.table(1);
        x.fill(1, 9, 8, 999999, 1000000, false);
        x.index(1, 0);
        due("falling", "4 5", () -> pages(1, 0));
        due("falling", "8 7 6 5 4 3 2 1 0", () -> entries(1));
    }

    static void kept() {
        fresh(42);
        x.table(2);
        x.table(1);
        x.table(1);
        x.fill(0, 4, 0, 1, 10, false);
        change("put b 1;");
        change("put b lack;");
        ask("from a,b where v0=v1 take v0,w0;");
        ask("from a where some(from c where v1=v0) take v0,v0/0;");
        ask("from a take count;");
        due("keep", 0, () -> x.keep(1));
        due("keep", 1, () -> x.keep(0));
        due("keep", 2, () -> x.keep(1));
        refused("question", BOUNDS, () -> x.keep(3));
        refused("question", BOUNDS, () -> x.keep(-1));
        promise = 43;
        due("keptAt", "0 0 0 1|0 1 0 0", () -> keptAt(0) + "|" + keptAt(1));
        due("what", ARGUMENT, () -> x.keptAt(0, 4));
        due("what", ARGUMENT, () -> x.keptAt(0, -1));
        due("kept", BOUNDS, () -> x.keptAt(3, 4));
        promise = 45;
        due("kept", "1 2", () -> x.kept(1, 0, 0) + " " + x.kept(1, 0, 1));
        promise = 43;
        change("put a 1,8;");
        // a: 5 alive, b: 2 alive; of an inner table only a change of c is
        due("born", "0 0 1 1|0 2 2 0", () -> keptAt(0) + "|" + keptAt(1));
        change("put c 3;");
        due("an inner table: all rows", "0 1 6 1|0 2 2 0", () -> keptAt(0) + "|" + keptAt(1));
        change("drop b where lacks v;");
        due("died: 5 rows", "0 1 6 1|0 2 7 0", () -> keptAt(0) + "|" + keptAt(1));
        change("set a w=w+1 where v=1;");
        due("2 died and 2 were born", "0 1 10 1|0 2 11 0", () -> keptAt(0) + "|" + keptAt(1));
        change("drop c where v=99;");
        due("a change of no table", "0 1 10 1|0 2 11 0", () -> keptAt(0) + "|" + keptAt(1));
        x.sweep(0);
        due("a sweep is none", "0 1 10 1|0 2 11 0", () -> keptAt(0) + "|" + keptAt(1));
        promise = 44;
        due("keptLacks", "false true", () -> x.keptLacks(0, 0, 0) + " " + x.keptLacks(0, 0, 1));
        due("item", BOUNDS, () -> x.keptLacks(0, 5, 2));
        due("item", BOUNDS, () -> x.keptLacks(0, 0, -1));
        due("row", NONE_SUCH, () -> x.keptLacks(0, 1, 0));
        due("row", NONE_SUCH, () -> x.keptLacks(0, -1, 0));
        due("kept", BOUNDS, () -> x.keptLacks(3, 0, 0));
        promise = 45;
        due("kept", "3 0", () -> x.kept(0, 0, 0) + " " + x.kept(0, 0, 1));
        due("item", BOUNDS, () -> x.kept(0, 5, 2));
        due("row", NONE_SUCH, () -> x.kept(0, 1, 0));
        due("row", NONE_SUCH, () -> x.kept(0, -1, 1));
        due("kept", BOUNDS, () -> x.kept(-1, 0, 0));
        promise = 42;
        due("keep", 3, () -> x.keep(2));
        refused("5th", STATE, () -> x.keep(2));
        promise = 43;
        due("count", "0 1 0 2", () -> keptAt(3));
        x.fill(2, 60, 0, 1, 100, false);
        x.fill(2, 60, 0, 1, 100, false);
        due("605 combinations: LOST", "1 0 15 1|0 2 11 0", () -> keptAt(0) + "|" + keptAt(1));
        promise = 45;
        due("LOST", NONE_SUCH, () -> x.kept(0, 0, 0));
        due("item first", BOUNDS, () -> x.kept(0, 0, 2));
        promise = 44;
        due("LOST", NONE_SUCH, () -> x.keptLacks(0, 0, 0));
        promise = 43;
        change("drop c;");
        due("for good", "1 0 15 1", () -> keptAt(0));
        promise = 42;
        fresh(42);
        x.table(1);
        x.fill(0, 23, 0, 1, 100, false);
        ask("from a,a take 1;");
        refused("529 rows", STATE, () -> x.keep(0));
        change("drop a where v<1;");
        due("484 rows", 0, () -> x.keep(0));
    }

    static String keptAt(int k) {
        return x.keptAt(k, 0) + " " + x.keptAt(k, 1) + " " + x.keptAt(k, 2) + " " + x.keptAt(k, 3);
    }

    static String writerAt(int w) {
        return x.writerAt(w, 0) + " " + x.writerAt(w, 1) + " " + x.writerAt(w, 2) + " " + x.writerAt(w, 3);
    }

    static String viewed(int w, int t) {
        StringBuilder b = new StringBuilder();
        for (int i = 0; i < x.view(w, t, -1, 99); i++) {
            b.append(i > 0 ? "|" : "");
            for (int c = 0; c < x.tableAt(t, 0); c++) {
                b.append(c > 0 ? " " : "").append(x.view(w, t, i, c));
            }
        }
        return b.toString();
    }

    static void writers() {
        fresh(46);
        x.table(2);
        x.table(1);
        x.fill(0, 3, 1, 1, 100, false);
        due("begin", 0, () -> x.begin(false));
        due("begin", 1, () -> x.begin(true));
        promise = 49;
        due("writerAt", "0 1 0 0", () -> writerAt(0));
        promise = 47;
        due("set", 1, () -> write(0, "set a w=9 where v=2;"));
        due("text is empty", 0, () -> x.wipe());
        due("put", 1, () -> write(0, "put b 4;"));
        due("put", 1, () -> write(0, "put a 7,lack;"));
        promise = 50;
        due("view", "1 1|3 7|2 9|7 0", () -> viewed(0, 0));
        due("nobody else sees it", "1 1|2 3|3 7 3", () -> viewed(1, 0) + " " + x.tableAt(0, 1));
        promise = 49;
        due("writerAt", "0 1 1 3", () -> writerAt(0));
        promise = 47;
        due("a put one is ended", 1, () -> write(0, "drop a where v=7;"));
        due("set of a put one", 2, () -> write(0, "set a w=w+1 where v<3;").equals(2) ? 2 : -1);
        promise = 50;
        due("view", "3 7|1 2|2 10", () -> viewed(0, 0));
        promise = 49;
        due("writerAt", "0 1 2 3", () -> writerAt(0));
        promise = 48;
        due("THROUGH", 1, () -> x.finish(0, false));
        due("the table", "1 1|2 3|3 7|1 2|2 10 4 2", () -> version(0, 0) + "|" + version(0, 1) + "|" + version(0, 2) + "|" + version(0, 3) + "|" + version(0, 4)
                + " " + x.value(1, 0, 0) + " " + x.moment());
        due("died and born", "2 2 -1 2 2", () -> x.lived(0, 0, true) + " " + x.lived(0, 1, true) + " " + x.lived(0, 2, true) + " " + x.lived(0, 3, false) + " " + x.lived(1, 0, false));
        promise = 49;
        due("writerAt", "1 1 2 3", () -> writerAt(0));
        due("what", ARGUMENT, () -> x.writerAt(0, 4));
        due("what", ARGUMENT, () -> x.writerAt(0, -1));
        due("writer", BOUNDS, () -> x.writerAt(2, 4));
        promise = 48;
        refused("not OPEN", STATE, () -> x.finish(0, false));
        refused("not OPEN", STATE, () -> x.finish(0, true));
        refused("writer", BOUNDS, () -> x.finish(2, true));
        promise = 47;
        type("put a 1,2;");
        refused("not OPEN", STATE, () -> x.write(0));
        due("text stays", 10, () -> x.wipe());
        refused("argument first", ARGUMENT, () -> x.write(0));
        refused("writer", BOUNDS, () -> x.write(-1));
        type("from a take 1;");
        refused("a question", ARGUMENT, () -> x.write(1));
        x.wipe();
        promise = 50;
        due("not OPEN", STATE, () -> x.view(0, 0, 0, 0));
        due("table first", BOUNDS, () -> x.view(0, 2, -1, 0));
        due("column first", BOUNDS, () -> x.view(0, 0, 0, 2));
        due("the old view", "1 1|2 3|3 7", () -> viewed(1, 0));
        due("row", NONE_SUCH, () -> x.view(1, 0, 3, 0));
        due("row", NONE_SUCH, () -> x.view(1, 0, -2, 0));
        due("column", BOUNDS, () -> x.view(1, 0, 3, 2));
        due("column", BOUNDS, () -> x.view(1, 0, 3, -1));
        due("column does not matter", 3L, () -> x.view(1, 0, -1, 99));
        due("writer", BOUNDS, () -> x.view(2, 0, 0, 0));
        promise = 48;
        write(1, "set a w=1 where v=1;");
        due("REFUSED: it has died since", "2 2", () -> x.finish(1, false) + " " + x.moment());
        x.begin(false);
        write(2, "drop a;");
        due("given up", "3 2 3", () -> x.finish(2, true) + " " + x.moment() + " " + x.tableAt(0, 2));
        x.begin(false);
        due("THROUGH without anything: a change", "1 3", () -> x.finish(3, false) + " " + x.moment());

        strict();

        fresh(46);
        for (int i = 0; i < 12; i++) {
            x.begin(i % 2 == 0);
        }
        refused("13th", STATE, () -> x.begin(false));
        x.table(1);
        promise = 50;
        due("a table made behind its START", 0L, () -> x.view(3, 0, -1, 0));
        change("put a 1;");
        due("none is alive then", 0L, () -> x.view(3, 0, -1, 0));
        write(3, "put a 2;");
        due("its own", "2", () -> viewed(3, 0));
        promise = 48;
        due("THROUGH", "1 1 2", () -> x.finish(3, false) + " " + version(0, 0) + " " + version(0, 1));

        fresh(48);
        x.table(1);
        x.fill(0, 64, 0, 1, 100, false);
        x.begin(false);
        x.fill(0, 63, 0, 1, 100, false);
        write(0, "put a 1;");
        write(0, "put a 2;");
        refused("129 versions", STATE, () -> x.finish(0, false));
        due("still OPEN", 0, () -> x.writerAt(0, 0));
        write(0, "drop a where v=2;");
        due("v=2 of the START, too", 1, () -> x.writerAt(0, 2));
        due("128", 1, () -> x.finish(0, false));
        due("128", 128, () -> x.tableAt(0, 1));
        x.begin(false);
        promise = 47;
        due("view of 127", 127L, () -> x.view(1, 0, -1, 0));
        write(1, "put a 1;");
        type("put a 1;");
        refused("129 in the view", STATE, () -> x.write(1));
        x.wipe();
        due("set needs no room", 128, () -> write(1, "set a v=v+1;"));
        due("view", 128L, () -> x.view(1, 0, -1, 0));
        fresh(50);
        x.table(1);
        x.fill(0, 3, 1, 1, 100, false);
        change("drop a where v=1;");
        x.begin(false);
        x.sweep(0);
        due("keeps its view", "2|3", () -> viewed(0, 0));
        write(0, "drop a where v=3;");
        due("the same one wherever it is moved", "1 3", () -> x.finish(0, false) + " " + x.lived(0, 1, true));
    }

    static void strict() {
        fresh(48);
        x.table(2);
        x.fill(0, 4, 0, 1, 100, false);
        x.begin(true);
        write(0, "drop a where v<2;");
        change("put a 1,50;");
        due("another one would be ended", "2 4", () -> x.finish(0, false) + " " + (x.tableAt(0, 2) - 1));
        x.begin(true);
        write(1, "drop a where v=0;");
        change("put a 7,50;");
        due("nothing else would", 1, () -> x.finish(1, false));
        x.begin(true);
        write(2, "put a 5,5;");
        write(2, "set a w=0 where v=5;");
        change("put a 6,6;");
        due("nothing else would", 1, () -> x.finish(2, false));
        x.begin(true);
        write(3, "set a w=w where v=6;");
        change("set a v=6 where v=3;");
        due("a changed one would", 2, () -> x.finish(3, false));
        x.begin(true);
        write(4, "put a 8,8;");
        change("put a 8,8;");
        due("puts alone look at nothing", 1, () -> x.finish(4, false));
        x.begin(false);
        write(5, "drop a where v=8;");
        change("put a 8,8;");
        due("not STRICT", 1, () -> x.finish(5, false));
        x.begin(true);
        write(6, "drop a where v=77;");
        change("put a 77,8;");
        change("drop a where v=77;");
        due("it is dead again", 1, () -> x.finish(6, false));
    }

    static void measures() {
        fresh(51);
        x.table(2);
        due("none", 0.0, () -> x.meanSize(0));
        x.fill(0, 17, 10, 1, 100, false);
        long bits = x.sizeOf(0, 0, 0, 3) + x.sizeOf(0, 0, 1, 0) + x.sizeOf(0, 1, 0, x.wayOf(0, 1, 0)) + x.sizeOf(0, 1, 1, 0);
        due("mean", (double) bits / 34.0, () -> x.meanSize(0));
        x.pack(0, 0, 1);
        due("packed otherwise", (double) (bits - x.sizeOf(0, 0, 0, 3) - 64 + 70 * 17) / 34.0, () -> x.meanSize(0));
        due("table", BOUNDS, () -> x.meanSize(1));
        due("table", BOUNDS, () -> x.meanSize(-1));

        fresh(52);
        x.table(1);
        x.fill(0, 33, 0, 1, 100, false);
        ask("from a where v0<5 take v0;");
        x.open(0, 1, 2, 2);
        due("leftShare", 2.0f / 3.0f, () -> x.leftShare(0));
        due("run", BOUNDS, () -> x.leftShare(1));
        promise = 53;
        due("nothing", 0L, () -> x.checksum(0));
        x.step(0, 10);
        due("a SCAN and an ORDER, nothing yet", 0L, () -> x.checksum(0));
        x.step(0, 1);
        due("two rows: 0 and 1", 1L, () -> x.checksum(0));
        x.step(0, 1);
        due("four", (1 * 31 + 2) * 31 + 3L, () -> x.checksum(0));
        due("run", BOUNDS, () -> x.checksum(-1));
        x.close(0);
        due("closed", BOUNDS, () -> x.checksum(0));
        promise = 52;
        due("closed", BOUNDS, () -> x.leftShare(0));
        fresh(53);
        x.table(1);
        ask("from a take v0;");
        x.open(0, 0, 1, 2);
        due("no zones", 0.0f, () -> x.leftShare(0));
        change("put a lack;");
        change("put a 5;");
        x.open(0, 2, 64, 2);
        x.step(1, 100);
        due("LACKING", 1000003L * 31 + 5, () -> x.checksum(1));
    }

    static void limits() {
        fresh(29);
        x.table(1);
        change("put a 1;");
        ask("from a take v0;");
        for (int i = 0; i < 30; i++) {
            x.close(x.open(0, 1, 1, 2));
        }
        refused("31st", STATE, () -> x.open(0, 1, 1, 2));
        refused("argument first", ARGUMENT, () -> x.open(0, 2, 1, 2));

        fresh(54);
        x.table(3);
        x.table(2);
        due("errors()", 0, () -> x.errors());
        x.fill(0, 20, 3, 5, 11, true);
        x.fill(1, 20, 1, 3, 9, false);
        x.index(0, 0);
        x.index(1, 1);
        ask("from a,b where v0=v1 and w0<5 take v0,w1 order w1;");
        ask("from a where some(from b where w1=w0) take rank over(along v0);");
        ask("from a by v0 take v0,count;");
        x.keep(0);
        x.keep(2);
        x.open(0, 2, 3, 5);
        x.step(0, 7);
        x.open(2, 2, 3, 5);
        x.step(1, 1000);
        x.begin(true);
        write(0, "set a v=1 where w<4;");
        due("errors()", 0, () -> x.errors());
        change("set b v=v*v*v*v*v where w<5;");
        x.sweep(1);
        x.pack(0, 0, 4);
        due("errors()", 0, () -> x.errors());
        x.finish(0, false);
        due("errors()", 0, () -> x.errors());
    }
}
