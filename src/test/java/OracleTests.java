import java.util.ArrayList;
import java.util.Arrays;
import java.util.Collections;
import java.util.HashMap;
import java.util.HashSet;
import java.util.IdentityHashMap;
import java.util.LinkedHashMap;
import java.util.List;
import java.util.Map;
import java.util.NoSuchElementException;
import java.util.Random;
import java.util.Set;
import java.util.TreeMap;
import java.util.TreeSet;

/**
 * Runs of calls by chance, with fixed seeds, on a Columnworks and on an Oracle: a second program, as plain as can
 * be, that was written from the document for itself. Each call must answer, or throw, the same on both.
 */
public final class OracleTests {
    private static int wrong = 0;
    private static final Map<String, Integer> seen = new TreeMap<>();
    private static final StringBuilder story = new StringBuilder();

    public static void main(String[] args) {
        int objects = args.length > 0 ? Integer.parseInt(args[0]) : 1500;
        long first = args.length > 1 ? Long.parseLong(args[1]) : 1;
        for (long seed = first; seed < first + objects && wrong < 3; seed++) {
            story.setLength(0);
            new Play(seed).play();
        }
        if (args.length > 0) {
            for (Map.Entry<String, Integer> e : seen.entrySet()) {
                System.out.println(e.getKey() + " " + e.getValue());
            }
        }
        System.out.println(wrong == 0 ? "all answers are those of the oracle" : wrong + " runs are wrong");
        System.exit(wrong == 0 ? 0 : 1);
    }

    interface Call {
        Object get();
    }

    static String told(Call call) {
        try {
            return String.valueOf(call.get());
        } catch (RuntimeException e) {
            String name = e.getClass().getName();
            return "throws " + name.substring(name.lastIndexOf('.') + 1);
        }
    }

    /** One run of calls on both. */
    static final class Play {
        final long seed;
        final Random r;
        final Columnworks x = new Columnworks();
        final Oracle o = new Oracle();
        int calls = 0;
        boolean isWrong = false;
        final boolean isBig;
        /** Some plays do one kind of thing again and again. */
        final int focus;

        Play(long seed) {
            this.seed = seed;
            r = new Random(seed * 7919);
            isBig = r.nextInt(4) == 0;
            focus = r.nextInt(2) == 0 ? r.nextInt(24) : -1;
        }

        boolean same(String name, Call mine, Call due) {
            if (calls >= 512 || isWrong) {
                return false;
            }
            calls++;
            String a = told(mine);
            String b = told(due);
            String key = name.replaceAll("\\(.*", "");
            if (b.startsWith("throws")) {
                key += " " + b.split("[ :]")[0] + " " + b.split("[ :]")[1];
            } else if ("finish turn fault keptAt wayOf indexAt best".contains(key) && b.length() < 3) {
                key += " " + b;
            }
            seen.merge(key, 1, Integer::sum);
            story.append(name).append(" -> ").append(b).append('\n');
            if (!a.equals(b)) {
                isWrong = true;
                wrong++;
                System.out.println("seed " + seed + ", text [" + o.text + "]: " + name + " answered " + a + ", due is " + b);
                String all = story.toString();
                System.out.println(all.length() > 6000 ? all.substring(all.length() - 6000) : all);
            }
            return !b.startsWith("throws");
        }

        void type(String signs) {
            for (int i = 0; i < signs.length(); i += 8) {
                long packed = 0;
                for (int j = i; j < Math.min(i + 8, signs.length()); j++) {
                    packed = packed << 8 | signs.charAt(j);
                }
                long given = packed;
                same("type(\"" + signs.substring(i, Math.min(i + 8, signs.length())) + "\")", () -> x.type(given), () -> o.type(given));
            }
        }

        int some(int n) {
            return r.nextInt(n);
        }

        boolean chance(int percent) {
            return r.nextInt(100) < percent;
        }

        void play() {
            int many = 1 + some(4);
            for (int i = 0; i < many; i++) {
                int columns = 1 + some(5);
                same("table(" + columns + ")", () -> x.table(columns), () -> o.table(columns));
                if (chance(80)) {
                    fill(i);
                }
            }
            int most = 120 + some(390);
            while (calls < most && !isWrong) {
                act();
            }
            sweepLook();
        }

        /** All that can be looked at. */
        void sweepLook() {
            same("errors()", x::errors, o::errors);
            same("moment()", x::moment, o::moment);
        }

        void fill(int t) {
            int many = isBig ? 1 + some(64) : 1 + some(9);
            int modulo = chance(50) ? 1 + some(8) : chance(50) ? 1 + some(60) : 1 + some(1000000);
            int start = chance(70) ? some(20) : some(1000001);
            int step = chance(70) ? some(5) : some(1000001);
            boolean lacks = chance(50);
            same("fill(" + t + "," + many + "," + start + "," + step + "," + modulo + "," + lacks + ")",
                    () -> x.fill(t, many, start, step, modulo, lacks), () -> o.fill(t, many, start, step, modulo, lacks));
        }

        int edge(int low, int high) {
            int k = some(12);
            if (k == 0) return low - 1;
            if (k == 1) return high + 1;
            if (k == 2) return Integer.MIN_VALUE + some(2) * Integer.MAX_VALUE;
            return low + some(Math.max(1, high - low + 1));
        }

        int aTable() { return edge(0, o.tables.size() - 1); }
        int aMoment() { return chance(65) ? o.moment : edge(0, o.moment); }
        int aQuestion() { return chance(4) ? edge(0, o.questions.size()) : o.questions.isEmpty() ? 0 : chance(50) ? o.questions.size() - 1 : some(o.questions.size()); }
        int aRun() { return chance(6) ? edge(0, o.runs.size()) : o.runs.isEmpty() ? 0 : chance(60) ? o.runs.size() - 1 : some(o.runs.size()); }
        int aWriter() { return chance(6) ? edge(0, o.writers.size()) : o.writers.isEmpty() ? 0 : some(o.writers.size()); }

        void wipeFirst() {
            if (!o.text.isEmpty() && chance(92)) {
                same("wipe()", x::wipe, o::wipe);
            }
        }

        void act() {
            switch (focus >= 0 && chance(60) ? focus : some(24)) {
                case 0: case 1: doChange(); break;
                case 2: doFault(); break;
                case 3: if (chance(40)) fill(aTable()); else doSweepOrTally(); break;
                case 4: lookAtTable(); break;
                case 5: lookAtZones(); break;
                case 6: case 7: doAsk(); break;
                case 8: case 9: lookAtQuestion(); break;
                case 10: case 11: lookAtPlans(); break;
                case 12: case 13: doOpen(); break;
                case 14: case 15: doRun(); break;
                case 16: case 17: doIndex(); break;
                case 18: case 19: doKept(); break;
                case 20: case 21: case 22: doWriter(); break;
                default: lookAtMeasures(); break;
            }
        }

        void doChange() {
            wipeFirst();
            type(new Texts(this).change());
            same("change()", x::change, o::change);
        }

        void doFault() {
            wipeFirst();
            Texts t = new Texts(this);
            String s = chance(30) ? t.change() : t.question();
            if (chance(70)) {
                s = t.spoil(s);
            }
            type(s);
            same("fault(true)", () -> x.fault(true), () -> o.fault(true));
            same("fault(false)", () -> x.fault(false), () -> o.fault(false));
            if (chance(10)) {
                long any = r.nextLong();
                same("type(" + any + ")", () -> x.type(any), () -> o.type(any));
            }
            if (chance(30)) {
                same("change()", x::change, o::change);
            }
            if (chance(30)) {
                same("ask()", x::ask, o::ask);
            }
        }

        void doSweepOrTally() {
            int t = aTable();
            if (chance(40)) {
                same("sweep(" + t + ")", () -> x.sweep(t), () -> o.sweep(t));
            } else if (chance(80)) {
                int c = edge(0, 4);
                same("tally(" + t + ")", () -> x.tally(t), () -> o.tally(t));
                same("tallied(" + t + "," + c + ")", () -> x.tallied(t, c), () -> o.tallied(t, c));
            } else {
                int c = edge(1, 5);
                same("table(" + c + ")", () -> x.table(c), () -> o.table(c));
            }
        }

        void lookAtTable() {
            int t = aTable();
            int w = edge(0, 4);
            same("tableAt(" + t + "," + w + ")", () -> x.tableAt(t, w), () -> o.tableAt(t, w));
            int size = t >= 0 && t < o.tables.size() ? o.tables.get(t).versions.size() : 1;
            int p = edge(0, size - 1);
            int c = edge(0, 4);
            boolean d = chance(50);
            same("lived(" + t + "," + p + "," + d + ")", () -> x.lived(t, p, d), () -> o.lived(t, p, d));
            same("lacks(" + t + "," + p + "," + c + ")", () -> x.lacks(t, p, c), () -> o.lacks(t, p, c));
            same("value(" + t + "," + p + "," + c + ")", () -> x.value(t, p, c), () -> o.value(t, p, c));
        }

        void lookAtZones() {
            int t = aTable();
            int size = t >= 0 && t < o.tables.size() ? o.tables.get(t).versions.size() : 1;
            int z = edge(0, (size + 15) / 16 - 1);
            int c = t >= 0 && t < o.tables.size() && chance(80) ? some(o.tables.get(t).columns) : edge(0, 4);
            int w = edge(-1, 4);
            boolean g = chance(50);
            if (chance(30)) {
                same("pack(" + t + "," + c + "," + w + ")", () -> x.pack(t, c, w), () -> o.pack(t, c, w));
            }
            same("wayOf(" + t + "," + c + "," + z + ")", () -> x.wayOf(t, c, z), () -> o.wayOf(t, c, z));
            for (int i = 0; i < 3; i++) {
                int v = edge(0, 4);
                same("sizeOf(" + t + "," + c + "," + z + "," + v + ")", () -> x.sizeOf(t, c, z, v), () -> o.sizeOf(t, c, z, v));
            }
            same("bound(" + t + "," + c + "," + z + "," + g + ")", () -> x.bound(t, c, z, g), () -> o.bound(t, c, z, g));
            same("meanSize(" + t + ")", () -> x.meanSize(t), () -> o.meanSize(t));
        }

        void doAsk() {
            wipeFirst();
            type(new Texts(this).question());
            if (same("ask()", x::ask, o::ask)) {
                int q = o.questions.size() - 1;
                for (int i = 0; i <= 5; i++) {
                    int w = i;
                    same("questionAt(" + q + "," + w + ")", () -> x.questionAt(q, w), () -> o.questionAt(q, w));
                }
                same("rows(" + q + "," + o.moment + ")", () -> x.rows(q, o.moment), () -> o.rows(q, o.moment));
            }
        }

        void lookAtQuestion() {
            if (o.questions.isEmpty()) {
                doAsk();
                return;
            }
            int q = aQuestion();
            int w = edge(0, 5);
            same("questionAt(" + q + "," + w + ")", () -> x.questionAt(q, w), () -> o.questionAt(q, w));
            int p = edge(0, 3);
            int i = edge(0, 2);
            if (same("program(" + q + "," + p + "," + i + ")", () -> x.program(q, p, i), () -> o.program(q, p, i))) {
                lookAtOutput();
            }
            int m = aMoment();
            same("rows(" + q + "," + m + ")", () -> x.rows(q, m), () -> o.rows(q, m));
        }

        /** The whole output, read sign by sign, as one call. */
        void lookAtOutput() {
            same("output", () -> all(true), () -> all(false));
        }

        String all(boolean isMine) {
            StringBuilder b = new StringBuilder();
            for (int i = 0; i < 1000; i++) {
                int s = isMine ? x.output(i) : o.output(i);
                if (s == -1) break;
                b.append((char) s);
            }
            return b.toString() + (isMine ? x.output(-1) : o.output(-1));
        }

        void lookAtPlans() {
            if (o.questions.isEmpty()) {
                doAsk();
                return;
            }
            int q = aQuestion();
            int m = aMoment();
            int s = edge(0, 2);
            boolean isRead = chance(50);
            same("leftOut(" + q + "," + s + "," + m + "," + isRead + ")", () -> x.leftOut(q, s, m, isRead), () -> o.leftOut(q, s, m, isRead));
            int set = edge(0, 7);
            same("estimate(" + q + "," + set + "," + m + ")", () -> x.estimate(q, set, m), () -> o.estimate(q, set, m));
            int room = chance(70) ? 2 + some(12) : edge(2, 64);
            if (same("best(" + q + "," + m + "," + room + ")", () -> x.best(q, m, room), () -> o.best(q, m, room))) {
                lookAtOutput();
            }
            if (q < 0 || q >= o.questions.size()) {
                return;
            }
            wipeFirst();
            type(new Texts(this).plan(o.questions.get(q).tables.size()));
            same("cost(" + q + "," + m + "," + room + ")", () -> x.cost(q, m, room), () -> o.cost(q, m, room));
            if (chance(80)) {
                same("wipe()", x::wipe, o::wipe);
            }
        }

        void doOpen() {
            if (o.questions.isEmpty()) {
                doAsk();
            }
            int q = aQuestion();
            wipeFirst();
            if (chance(50) && q >= 0 && q < o.questions.size()) {
                type(new Texts(this).plan(o.questions.get(q).tables.size()));
            }
            int m = aMoment();
            int batch = chance(70) ? 1 + some(6) : edge(1, 64);
            int room = chance(80) ? 2 + some(10) : edge(2, 64);
            if (same("open(" + q + "," + m + "," + batch + "," + room + ")", () -> x.open(q, m, batch, room), () -> o.open(q, m, batch, room))) {
                int run = o.runs.size() - 1;
                if (chance(60)) {
                    int steps = chance(50) ? 100000 : 1 + some(30);
                    same("step(" + run + "," + steps + ")", () -> x.step(run, steps), () -> o.step(run, steps));
                    lookAtRun(run);
                    same("answers", () -> wholeAnswer(run, true), () -> wholeAnswer(run, false));
                }
            }
        }

        String wholeAnswer(int run, boolean isMine) {
            StringBuilder b = new StringBuilder();
            int rows = isMine ? x.runAt(run, 3) : o.runAt(run, 3);
            for (int i = 0; i <= rows; i++) {
                for (int j = 0; j <= 5; j++) {
                    int row = i;
                    int item = j;
                    b.append(told(() -> isMine ? x.isLacking(run, row, item) : o.isLacking(run, row, item))).append(':');
                    b.append(told(() -> isMine ? x.answer(run, row, item) : o.answer(run, row, item))).append(' ');
                }
            }
            return b.toString();
        }

        void lookAtRun(int run) {
            for (int i = 0; i <= 8; i++) {
                int w = i;
                same("runAt(" + run + "," + w + ")", () -> x.runAt(run, w), () -> o.runAt(run, w));
            }
            same("tasks", () -> tasks(run, true), () -> tasks(run, false));
            same("checksum(" + run + ")", () -> x.checksum(run), () -> o.checksum(run));
            same("leftShare(" + run + ")", () -> x.leftShare(run), () -> o.leftShare(run));
        }

        String tasks(int run, boolean isMine) {
            StringBuilder b = new StringBuilder();
            for (int i = 0; i <= 8; i++) {
                for (int j = 0; j <= 5; j++) {
                    int t = i;
                    int w = j;
                    b.append(told(() -> isMine ? x.taskAt(run, t, w) : o.taskAt(run, t, w))).append(' ');
                }
            }
            return b.toString();
        }

        void doRun() {
            if (o.runs.isEmpty()) {
                doOpen();
                return;
            }
            int run = aRun();
            int k = some(8);
            if (k < 3) {
                int steps = chance(80) ? 1 + some(12) : edge(1, 100000);
                same("step(" + run + "," + steps + ")", () -> x.step(run, steps), () -> o.step(run, steps));
            } else if (k == 3) {
                same("turn(" + run + ")", () -> x.turn(run), () -> o.turn(run));
            } else if (k == 4) {
                same("close(" + run + ")", () -> x.close(run), () -> o.close(run));
            }
            int w = edge(0, 8);
            same("runAt(" + run + "," + w + ")", () -> x.runAt(run, w), () -> o.runAt(run, w));
            int t = edge(0, 7);
            int v = edge(0, 4);
            same("taskAt(" + run + "," + t + "," + v + ")", () -> x.taskAt(run, t, v), () -> o.taskAt(run, t, v));
            int row = edge(0, 3);
            int item = edge(0, 2);
            same("isLacking(" + run + "," + row + "," + item + ")", () -> x.isLacking(run, row, item), () -> o.isLacking(run, row, item));
            same("answer(" + run + "," + row + "," + item + ")", () -> x.answer(run, row, item), () -> o.answer(run, row, item));
            same("checksum(" + run + ")", () -> x.checksum(run), () -> o.checksum(run));
        }

        void doIndex() {
            int t = aTable();
            int c = t >= 0 && t < o.tables.size() && chance(80) ? some(o.tables.get(t).columns) : edge(0, 4);
            if (o.indexes.isEmpty() || chance(30)) {
                same("index(" + t + "," + c + ")", () -> x.index(t, c), () -> o.index(t, c));
            }
            int i = chance(10) ? edge(0, 6) : o.indexes.isEmpty() ? 0 : some(o.indexes.size());
            int w = edge(0, 3);
            same("indexAt(" + i + "," + w + ")", () -> x.indexAt(i, w), () -> o.indexAt(i, w));
            same("pages(" + i + ")", () -> pages(i, true), () -> pages(i, false));
            int e = edge(0, 10);
            same("entry(" + i + "," + e + ")", () -> x.entry(i, e), () -> o.entry(i, e));
            long v = chance(80) ? some(30) - 3 : r.nextLong();
            same("seek(" + i + "," + v + ")", () -> x.seek(i, v), () -> o.seek(i, v));
        }

        String pages(int index, boolean isMine) {
            StringBuilder b = new StringBuilder();
            for (int l = -1; l < 5; l++) {
                for (int p = -1; p < 40; p++) {
                    int level = l;
                    int page = p;
                    String s = told(() -> isMine ? x.page(index, level, page) : o.page(index, level, page));
                    b.append(s.startsWith("throws") ? s.substring(7, 9) : s).append(' ');
                }
            }
            for (int e = 0; e < 130; e++) {
                int entry = e;
                String s = told(() -> isMine ? x.entry(index, entry) : o.entry(index, entry));
                b.append(s.startsWith("throws") ? s.substring(7, 9) : s).append(' ');
            }
            return b.toString();
        }

        void doKept() {
            if (o.questions.isEmpty()) {
                doAsk();
            }
            if (o.keeps.isEmpty() || chance(25)) {
                int q = aQuestion();
                same("keep(" + q + ")", () -> x.keep(q), () -> o.keep(q));
            }
            int k = chance(10) ? edge(0, 4) : o.keeps.isEmpty() ? 0 : some(o.keeps.size());
            for (int i = 0; i < 3; i++) {
                int w = i;
                same("keptAt(" + k + "," + w + ")", () -> x.keptAt(k, w), () -> o.keptAt(k, w));
            }
            int w = edge(0, 3);
            same("keptAt(" + k + "," + w + ")", () -> x.keptAt(k, w), () -> o.keptAt(k, w));
            int row = edge(0, 3);
            int item = edge(0, 2);
            same("keptLacks(" + k + "," + row + "," + item + ")", () -> x.keptLacks(k, row, item), () -> o.keptLacks(k, row, item));
            same("kept(" + k + "," + row + "," + item + ")", () -> x.kept(k, row, item), () -> o.kept(k, row, item));
        }

        void doWriter() {
            int k = some(10);
            if (k < 2 || o.writers.isEmpty()) {
                boolean s = chance(50);
                same("begin(" + s + ")", () -> x.begin(s), () -> o.begin(s));
            }
            int w = aWriter();
            if (k < 7) {
                wipeFirst();
                type(new Texts(this).change());
                same("write(" + w + ")", () -> x.write(w), () -> o.write(w));
            } else if (k < 9) {
                boolean g = chance(15);
                same("finish(" + w + "," + g + ")", () -> x.finish(w, g), () -> o.finish(w, g));
            }
            int v = edge(0, 3);
            same("writerAt(" + w + "," + v + ")", () -> x.writerAt(w, v), () -> o.writerAt(w, v));
            int t = aTable();
            int c = edge(0, 4);
            int row = edge(-1, 5);
            same("view(" + w + "," + t + "," + row + "," + c + ")", () -> x.view(w, t, row, c), () -> o.view(w, t, row, c));
            same("views", () -> views(w, true), () -> views(w, false));
        }

        String views(int w, boolean isMine) {
            StringBuilder b = new StringBuilder();
            for (int t = 0; t < 4; t++) {
                int table = t;
                for (int row = -1; row < 12; row++) {
                    int at = row;
                    for (int c = 0; c < 5; c++) {
                        int column = c;
                        b.append(told(() -> isMine ? x.view(w, table, at, column) : o.view(w, table, at, column))).append(' ');
                    }
                }
            }
            return b.toString();
        }

        void lookAtMeasures() {
            int t = aTable();
            same("meanSize(" + t + ")", () -> x.meanSize(t), () -> o.meanSize(t));
            int run = aRun();
            same("leftShare(" + run + ")", () -> x.leftShare(run), () -> o.leftShare(run));
            same("checksum(" + run + ")", () -> x.checksum(run), () -> o.checksum(run));
            if (chance(30)) {
                same("errors()", x::errors, o::errors);
            }
            if (chance(20)) {
                same("wipe()", x::wipe, o::wipe);
            }
        }
    }

    /** Makes texts by the grammar; most have no fault. */
    static final class Texts {
        final Play p;
        int[] own = {0};
        List<Integer> visible = new ArrayList<>();
        boolean isChange = false;
        boolean mayAsk = false;
        List<String> bys = new ArrayList<>();
        boolean isGrouped = false;
        boolean isInAggregate = false;

        Texts(Play p) {
            this.p = p;
        }

        int anyTable() {
            int n = p.o.tables.size();
            return p.chance(3) ? p.some(4) : p.some(n);
        }

        int columns(int t) {
            return t < p.o.tables.size() ? p.o.tables.get(t).columns : 5;
        }

        String letter(int t) {
            return "" + (char) ('a' + t);
        }

        String gap() {
            return p.chance(10) ? "  " : "";
        }

        String column(int t) {
            int c = p.chance(3) ? p.some(5) : p.some(columns(t));
            return "" + (char) ('v' + c);
        }

        String word() {
            StringBuilder b = new StringBuilder("'");
            int n = 1 + p.some(8);
            for (int i = 0; i < n; i++) {
                b.append((char) ('a' + p.some(26)));
            }
            return b + "'";
        }

        String value() {
            int k = p.some(20);
            if (k == 0) return word();
            if (k < 4) return "lack";
            if (k < 7) return "-" + gap() + p.some(30);
            if (k == 7) return "" + p.some(1000000000);
            return "" + p.some(12);
        }

        String change() {
            isChange = true;
            int t = anyTable();
            visible.add(t);
            StringBuilder b = new StringBuilder(gap());
            int k = p.some(10);
            if (k < 4) {
                b.append("put ").append(gap()).append(letter(t)).append(' ');
                int n = columns(t) + (p.chance(4) ? p.some(3) - 1 : 0);
                for (int i = 0; i < n; i++) {
                    b.append(i > 0 ? "," + gap() : "").append(value());
                }
            } else if (k < 7) {
                b.append("set ").append(letter(t)).append(' ').append(column(t)).append("=").append(sum(2));
                if (p.chance(80)) {
                    b.append(" where ").append(test(2));
                }
            } else {
                b.append("drop ").append(letter(t));
                if (p.chance(93)) {
                    b.append(" where ").append(test(2));
                }
            }
            return b.append(gap()).append(";").append(gap()).toString();
        }

        String ref() {
            if (isChange) {
                return column(visible.get(0));
            }
            if (isGrouped && !isInAggregate && p.chance(97)) {
                return bys.isEmpty() ? "" + p.some(9) : bys.get(p.some(bys.size()));
            }
            int s = p.chance(2) ? p.some(3) : p.some(visible.size());
            return column(s < visible.size() ? visible.get(s) : 0) + s;
        }

        String unit(int deep) {
            int k = p.some(20);
            if (k < 10) return ref();
            if (k < 15) return "" + (p.chance(80) ? p.some(12) : p.some(1000));
            if (k == 15) return word();
            if (k == 16 && deep > 0) return "-" + gap() + unit(deep - 1);
            if (k < 19 && deep > 0) return "(" + sum(deep - 1) + ")";
            return ref();
        }

        String grouped(int deep) {
            if (isGrouped && !isInAggregate && p.chance(60)) {
                int k = p.some(4);
                if (k == 0) return "count";
                isInAggregate = true;
                String s = (k == 1 ? "total(" : k == 2 ? "least(" : "most(") + sum(deep > 0 ? 1 : 0) + ")";
                isInAggregate = false;
                return s;
            }
            return unit(deep);
        }

        String sum(int deep) {
            StringBuilder b = new StringBuilder(grouped(deep));
            while (p.chance(25)) {
                b.append(gap()).append("+-*/".charAt(p.some(4))).append(gap()).append(grouped(deep));
            }
            return b.toString();
        }

        String sign() {
            return new String[] {"<", "<=", "=", "<>", "="}[p.some(5)];
        }

        String one(int deep) {
            int k = p.some(24);
            if (k < 8) return ref() + gap() + sign() + gap() + (p.chance(60) ? "" + p.some(15) : ref());
            if (k < 10) return p.some(15) + sign() + ref();
            if (k < 13) return "lacks " + (p.chance(80) ? ref() : unit(1));
            if (k < 15 && deep > 0) return "not " + one(deep - 1);
            if (k < 17 && deep > 0) return "[" + test(deep - 1) + "]";
            if (k < 19 && mayAsk) return inner();
            return sum(deep) + sign() + sum(deep);
        }

        String inner() {
            int free = 3 - visible.size();
            if (free <= 0 && p.chance(90)) {
                return "1=1";
            }
            mayAsk = false;
            StringBuilder b = new StringBuilder();
            boolean isIn = p.chance(50);
            b.append(isIn ? sum(1) + " in" : "some").append(gap()).append("(from ");
            int n = 1 + (p.chance(30) ? p.some(Math.max(1, free)) : 0);
            int before = visible.size();
            for (int i = 0; i < n; i++) {
                int t = anyTable();
                visible.add(t);
                b.append(i > 0 ? "," : "").append(letter(t));
            }
            if (p.chance(70)) {
                b.append(" where ").append(test(1));
            }
            if (isIn) {
                b.append(" take ").append(sum(1));
            }
            while (visible.size() > before) {
                visible.remove(visible.size() - 1);
            }
            mayAsk = true;
            return b.append(")").toString();
        }

        String test(int deep) {
            StringBuilder b = new StringBuilder(one(deep));
            while (p.chance(25)) {
                b.append(p.chance(75) ? " and " : " or ").append(one(deep));
            }
            return b.toString();
        }

        String freeRef() {
            int s = p.some(visible.size());
            return column(visible.get(s)) + s;
        }

        String question() {
            for (int i = 0; i < 20; i++) {
                Texts t = new Texts(p);
                String s = t.anyQuestion();
                if (s.length() <= 200) {
                    return s;
                }
            }
            return "from a take 1;";
        }

        String anyQuestion() {
            StringBuilder b = new StringBuilder(gap()).append("from ");
            int n = p.chance(45) ? 1 : p.chance(60) ? 2 : 3;
            if (p.isBig && p.chance(70)) n = 1;
            for (int i = 0; i < n; i++) {
                int t = anyTable();
                visible.add(t);
                b.append(i > 0 ? "," + gap() : "").append(letter(t));
            }
            if (p.chance(75)) {
                mayAsk = true;
                b.append(" where ");
                for (int i = 1; i < n; i++) {
                    if (p.chance(70)) {
                        int s = p.some(i);
                        b.append(column(visible.get(s))).append(s).append('=').append(column(visible.get(i))).append(i).append(" and ");
                    }
                }
                b.append(test(2));
                mayAsk = false;
            }
            if (p.chance(25)) {
                int m = 1 + p.some(3);
                for (int i = 0; i < m; i++) {
                    bys.add(freeRef());
                }
                b.append(" by ").append(String.join(",", bys));
                isGrouped = true;
                if (p.chance(40)) {
                    b.append(" with ").append(test(1));
                }
            } else {
                isGrouped = p.chance(15);
            }
            b.append(" take ");
            int m = 1 + p.some(4);
            for (int i = 0; i < m; i++) {
                b.append(i > 0 ? "," : "").append(item());
            }
            if (p.chance(50)) {
                b.append(" order ");
                m = 1 + p.some(3);
                for (int i = 0; i < m; i++) {
                    b.append(i > 0 ? "," : "").append(p.chance(50) ? "down " : "").append(sum(1));
                }
            }
            if (p.chance(30)) {
                b.append(" first ").append(p.some(12));
            }
            return b.append(gap()).append(";").toString();
        }

        String item() {
            if (isGrouped ? p.chance(2) : p.chance(30)) {
                StringBuilder b = new StringBuilder(p.chance(50) ? "rank over(" : "run(" + sum(1) + ") over (");
                int n = p.some(3);
                for (int i = 0; i < n; i++) {
                    b.append(i > 0 ? "," : "").append(freeRef());
                }
                return b.append(" along ").append(freeRef()).append(")").toString();
            }
            return sum(2);
        }

        String spoil(String s) {
            StringBuilder b = new StringBuilder(s);
            int n = 1 + p.some(2);
            for (int i = 0; i < n && b.length() > 0; i++) {
                int at = p.some(b.length());
                int k = p.some(4);
                String parts = "(|)|[|]|,|;|not |-|count|total(|v0|w1|x2|v|a|d|e|in(|some(from a|from |where | and | or |lacks |1|1234567890|'a'|'|<|>|=|A|rank over(|run(v0)over(along v0)|by v0|lack|take |first |3| ";
                String[] all = parts.split("\\|");
                if (k == 0) {
                    b.deleteCharAt(at);
                } else if (k == 1) {
                    b.setLength(at);
                } else {
                    b.insert(at, all[p.some(all.length)]);
                }
            }
            if (p.chance(10)) {
                String[] deep = {"((((((((((v0", "(((((((((((v0", "----------v0", "-----------v0", "(-(-(-(-(-(-v0"};
                b.insert(p.some(b.length() + 1), deep[p.some(deep.length)]);
            }
            return b.length() > 200 ? b.substring(0, 200) : b.toString();
        }

        String plan(int n) {
            String ops = "xhmi";
            if (n == 1 && p.chance(90)) {
                return "0";
            }
            List<Integer> order = new ArrayList<>();
            for (int i = 0; i < n; i++) {
                order.add(i);
            }
            Collections.shuffle(order, p.r);
            String s;
            if (n == 1) {
                s = "(0x0)";
            } else if (n == 2) {
                s = "(" + order.get(0) + ops.charAt(p.some(4)) + order.get(1) + ")";
            } else if (p.chance(60)) {
                s = "((" + order.get(0) + ops.charAt(p.some(4)) + order.get(1) + ")" + ops.charAt(p.some(4)) + order.get(2) + ")";
            } else {
                s = "(" + order.get(0) + ops.charAt(p.some(4)) + "(" + order.get(1) + ops.charAt(p.some(4)) + order.get(2) + "))";
            }
            return p.chance(6) ? spoil(s) : s;
        }
    }
}

/** The document, read anew: lists and trees, everything worked out when it is asked for. */
final class Oracle {
    static final class Version {
        Long[] v;
        int born;
        int died = -1;
    }

    static final class Tab {
        int columns;
        int since = 0;
        List<Version> versions = new ArrayList<>();
        int[] tallies = {10, 10, 10, 10, 10};
        int[] ways = {-1, -1, -1, -1, -1};

        List<Version> alive(int m) {
            List<Version> out = new ArrayList<>();
            for (Version v : versions) {
                if (v.born <= m && !(v.died != -1 && v.died <= m)) {
                    out.add(v);
                }
            }
            return out;
        }

        List<Version> zone(int z) {
            return versions.subList(16 * z, Math.min(versions.size(), 16 * z + 16));
        }

        int zones() {
            return (versions.size() + 15) / 16;
        }
    }

    static final class Node {
        String op;
        long number;
        int source;
        int column;
        boolean bracketed;
        List<Node> kids = new ArrayList<>();
        List<Integer> tables;      // of an inner question
        int firstSource;
        Node test;
        Node take;

        Node(String op, Node... kids) {
            this.op = op;
            this.kids.addAll(Arrays.asList(kids));
        }

        boolean isFixed() {
            if (op.equals("ref") || op.equals("count") || op.equals("total") || op.equals("least") || op.equals("most")
                    || op.equals("some") || op.equals("in")) {
                return false;
            }
            for (Node k : kids) {
                if (!k.isFixed()) {
                    return false;
                }
            }
            return true;
        }

        void refs(Set<Integer> out, int own) {
            if (op.equals("ref") && source < own) {
                out.add(source);
            }
            for (Node k : kids) {
                k.refs(out, own);
            }
            if (test != null) {
                test.refs(out, own);
            }
            if (take != null) {
                take.refs(out, own);
            }
        }
    }

    static final class Item {
        String over;               // rank, run or null
        Node sum;
        List<Node> span = new ArrayList<>();
        Node along;
        boolean down;
    }

    static final class Told {
        String kind;
        int table;
        int column;
        Node sum;
        Node test;
        List<Long> put = new ArrayList<>();
        List<Integer> tables = new ArrayList<>();
        List<Node> conjuncts = new ArrayList<>();
        List<Node> inners = new ArrayList<>();
        List<Node> by = new ArrayList<>();
        Node with;
        List<Item> items = new ArrayList<>();
        List<Item> keys = new ArrayList<>();
        long first = -1;
        boolean grouped;
    }

    static final class Row {
        Version[] at;
        int[] places;
    }

    // ================================================================ reading

    static final class Tok {
        String kind;
        String letters;
        long number;
        int place;
    }

    static final class Fault extends RuntimeException {
        final int place;

        Fault(int place) {
            this.place = place;
        }
    }

    static final Set<String> WORDS = new HashSet<>(Arrays.asList(("put set drop where lack from by with take order first rank"
            + " over run along down or and not lacks some in count total least most").split(" ")));

    static List<Tok> tokens(String s) {
        List<Tok> out = new ArrayList<>();
        int i = 0;
        while (true) {
            while (i < s.length() && s.charAt(i) == ' ') {
                i++;
            }
            Tok t = new Tok();
            t.place = i;
            out.add(t);
            if (i == s.length()) {
                t.kind = "end";
                return out;
            }
            java.util.regex.Matcher m = java.util.regex.Pattern
                    .compile("[v-z][0-2](?<![a-z]..)|[0-9]+|[a-z]+|'[a-z]{1,8}'|<=|<>|[-;,()\\[\\]+*/<=]").matcher(s);
            m.region(i, s.length());
            if (!m.lookingAt()) {
                t.kind = "bad";
                i++;
                continue;
            }
            String g = m.group();
            i = m.end();
            t.letters = g;
            if (g.matches("[v-z][0-2]")) {
                t.kind = "ref";
            } else if (g.matches("[0-9]+")) {
                t.kind = g.length() > 9 ? "bad" : "number";
                t.number = g.length() > 9 ? 0 : Long.parseLong(g);
            } else if (g.startsWith("'")) {
                t.kind = "number";
                for (int k = 1; k <= 8; k++) {
                    t.number = t.number * 27 + (k < g.length() - 1 ? g.charAt(k) - 'a' + 1 : 0);
                }
                t.kind = "word";
            } else if (WORDS.contains(g)) {
                t.kind = g;
            } else if (g.matches("[a-d]")) {
                t.kind = "table";
            } else if (g.matches("[v-z]")) {
                t.kind = "column";
            } else if (g.matches("[a-z]+")) {
                t.kind = "bad";
            } else {
                t.kind = g;
            }
        }
    }

    final class Parser {
        final List<Tok> tokens;
        int at = 0;
        final TreeSet<Integer> strange = new TreeSet<>();
        final TreeSet<Integer> strangeIfGrouped = new TreeSet<>();
        int open = 0;
        final List<Integer> sources = new ArrayList<>();
        String area = "change";
        boolean inner = false;
        int aggregates = 0;
        boolean inOver = false;
        boolean sawAggregate = false;
        final Told told = new Told();

        Parser(String s) {
            tokens = tokens(s);
        }

        Tok t() {
            return tokens.get(at);
        }

        boolean is(String kind) {
            return t().kind.equals(kind);
        }

        Tok take(String kind) {
            if (!is(kind)) {
                throw new Fault(t().place);
            }
            at++;
            return tokens.get(at - 1);
        }

        boolean maybe(String kind) {
            if (is(kind)) {
                at++;
                return true;
            }
            return false;
        }

        void open(String kind) {
            if (!is(kind) || open == 10) {
                throw new Fault(t().place);
            }
            open++;
            at++;
        }

        void close(String kind) {
            take(kind);
            open--;
        }

        int table() {
            Tok t = take("table");
            int n = t.letters.charAt(0) - 'a';
            if (n >= tables.size()) {
                strange.add(t.place);
            }
            return n;
        }

        int columns(int table) {
            return table < tables.size() ? tables.get(table).columns : 99;
        }

        Told text() {
            if (maybe("put")) {
                told.kind = "put";
                told.table = table();
                int n = 0;
                do {
                    int place = t().place;
                    boolean neg = maybe("-");
                    Long v = null;
                    if (neg) {
                        v = -take("number").number;
                    } else if (is("number") || is("word")) {
                        v = t().number;
                        at++;
                    } else {
                        take("lack");
                    }
                    if (n >= columns(told.table)) {
                        strange.add(place);
                    }
                    told.put.add(v);
                    n++;
                } while (maybe(","));
                if (is(";") && told.table < tables.size() && n < columns(told.table)) {
                    strange.add(t().place);
                }
            } else if (maybe("set")) {
                told.kind = "set";
                told.table = table();
                sources.add(told.table);
                Tok c = take("column");
                told.column = c.letters.charAt(0) - 'v';
                if (told.column >= columns(told.table)) {
                    strange.add(c.place);
                }
                take("=");
                told.sum = sum();
                if (maybe("where")) {
                    told.test = test();
                }
            } else if (maybe("drop")) {
                told.kind = "drop";
                told.table = table();
                sources.add(told.table);
                if (maybe("where")) {
                    told.test = test();
                }
            } else {
                take("from");
                told.kind = "from";
                question();
            }
            take(";");
            take("end");
            return told;
        }

        void from() {
            do {
                if (sources.size() == 3) {
                    // the comma ahead of the 4th can't stand; behind an inner from, the table itself
                    throw new Fault(t().place);
                }
                sources.add(table());
                if (is(",") && sources.size() == 3) {
                    throw new Fault(t().place);
                }
            } while (maybe(","));
        }

        void question() {
            from();
            told.tables.addAll(sources);
            if (maybe("where")) {
                area = "where";
                told.test = test();
                if (told.test.op.equals("or") && !told.test.bracketed) {
                    told.conjuncts.add(told.test);
                } else {
                    split(told.test);
                }
            }
            area = "by";
            if (maybe("by")) {
                told.by.addAll(refs());
                if (maybe("with")) {
                    area = "with";
                    told.with = test();
                }
            }
            take("take");
            area = "take";
            for (int i = 0;; i++) {
                told.items.add(item());
                if (!is(",")) {
                    break;
                }
                if (i == 4) {
                    throw new Fault(t().place);
                }
                take(",");
            }
            if (maybe("order")) {
                for (int i = 0;; i++) {
                    Item k = new Item();
                    k.down = maybe("down");
                    k.sum = sum();
                    told.keys.add(k);
                    if (!is(",")) {
                        break;
                    }
                    if (i == 2) {
                        throw new Fault(t().place);
                    }
                    take(",");
                }
            }
            if (maybe("first")) {
                told.first = take("number").number;
            }
            told.grouped = !told.by.isEmpty() || sawAggregate;
            if (told.grouped) {
                strange.addAll(strangeIfGrouped);
            }
        }

        void split(Node n) {
            if (n.op.equals("and") && !n.bracketed) {
                split(n.kids.get(0));
                told.conjuncts.add(n.kids.get(1));
            } else {
                told.conjuncts.add(n);
            }
        }

        Node ref() {
            Tok t = take("ref");
            Node n = new Node("ref");
            n.source = t.letters.charAt(1) - '0';
            n.column = t.letters.charAt(0) - 'v';
            if (n.source >= sources.size() || n.column >= columns(sources.get(n.source))) {
                strange.add(t.place);
            }
            return n;
        }

        List<Node> refs() {
            List<Node> out = new ArrayList<>();
            while (true) {
                out.add(ref());
                if (!is(",")) {
                    return out;
                }
                if (out.size() == 3) {
                    throw new Fault(t().place);
                }
                take(",");
            }
        }

        Item item() {
            Item i = new Item();
            int place = t().place;
            if (maybe("rank")) {
                i.over = "rank";
            } else if (maybe("run")) {
                i.over = "run";
                inOver = true;
                open("(");
                i.sum = sum();
                close(")");
                inOver = false;
            } else {
                i.sum = sum();
                return i;
            }
            strangeIfGrouped.add(place);
            take("over");
            open("(");
            if (!is("along")) {
                i.span.addAll(refs());
            }
            take("along");
            i.along = ref();
            close(")");
            return i;
        }

        Node test() {
            Node n = all();
            while (maybe("or")) {
                n = new Node("or", n, all());
            }
            return n;
        }

        Node all() {
            Node n = one();
            while (maybe("and")) {
                n = new Node("and", n, one());
            }
            return n;
        }

        Node one() {
            if (is("not")) {
                open("not");
                Node n = new Node("not", one());
                open--;
                return n;
            }
            if (is("[")) {
                open("[");
                Node n = test();
                close("]");
                n.bracketed = true;
                return n;
            }
            if (maybe("lacks")) {
                return new Node("lacks", unit());
            }
            boolean may = area.equals("where") && !inner;
            if (is("some") && may) {
                at++;
                return inner("some");
            }
            Node left = sum();
            if (is("in") && may) {
                at++;
                Node n = inner("in");
                n.kids.add(left);
                return n;
            }
            for (String sign : new String[] {"<", "<=", "=", "<>"}) {
                if (maybe(sign)) {
                    return new Node(sign, left, sum());
                }
            }
            throw new Fault(t().place);
        }

        Node inner(String word) {
            Node n = new Node(word);
            open("(");
            take("from");
            inner = true;
            int own = sources.size();
            n.firstSource = own;
            from();
            n.tables = new ArrayList<>(sources.subList(own, sources.size()));
            if (maybe("where")) {
                n.test = test();
            }
            if (word.equals("in")) {
                take("take");
                n.take = sum();
            }
            close(")");
            inner = false;
            while (sources.size() > own) {
                sources.remove(sources.size() - 1);
            }
            told.inners.add(n);
            return n;
        }

        Node sum() {
            Node n = term();
            while (is("+") || is("-")) {
                String sign = t().kind;
                at++;
                n = new Node(sign, n, term());
            }
            return n;
        }

        Node term() {
            Node n = unit();
            while (is("*") || is("/")) {
                String sign = t().kind;
                at++;
                n = new Node(sign, n, unit());
            }
            return n;
        }

        boolean isToldBy(Node r) {
            for (Node b : told.by) {
                if (b.source == r.source && b.column == r.column) {
                    return true;
                }
            }
            return false;
        }

        void aggregate() {
            if (area.equals("change") || area.equals("where") || aggregates > 0 || inOver) {
                strange.add(t().place);
            }
            if (area.equals("take")) {
                sawAggregate = true;
            }
        }

        Node unit() {
            Tok t = t();
            if (is("number") || is("word")) {
                at++;
                Node n = new Node("number");
                n.number = t.number;
                return n;
            }
            if (is("column") && area.equals("change")) {
                at++;
                Node n = new Node("ref");
                n.column = t.letters.charAt(0) - 'v';
                if (n.column >= columns(told.table)) {
                    strange.add(t.place);
                }
                return n;
            }
            if (is("ref") && !area.equals("change")) {
                Node n = ref();
                if (!area.equals("where") && aggregates == 0 && !isToldBy(n)) {
                    strangeIfGrouped.add(t.place);
                }
                return n;
            }
            if (is("-")) {
                open("-");
                Node n = new Node("neg", unit());
                open--;
                return n;
            }
            if (is("(")) {
                open("(");
                Node n = sum();
                close(")");
                n.bracketed = true;
                return n;
            }
            if (is("count")) {
                aggregate();
                at++;
                return new Node("count");
            }
            if (is("total") || is("least") || is("most")) {
                aggregate();
                at++;
                open("(");
                aggregates++;
                Node n = new Node(t.kind, sum());
                aggregates--;
                close(")");
                return n;
            }
            throw new Fault(t.place);
        }
    }

    int faultKind = 0;
    int faultPlace = -1;

    /** Reads the text; null if it has a fault. */
    Told read() {
        faultKind = 0;
        faultPlace = -1;
        Parser p = new Parser(text);
        try {
            Told t = p.text();
            if (p.strange.isEmpty()) {
                return t;
            }
            faultKind = 2;
            faultPlace = p.strange.first();
        } catch (Fault f) {
            faultKind = 1;
            faultPlace = f.place;
        }
        return null;
    }

    // ================================================================ values

    static Long sum(Node n, Version[] row, List<Row> group, Oracle o, int m) {
        switch (n.op) {
            case "number": return n.number;
            case "ref": return row[n.source].v[n.column];
            case "neg": {
                Long a = sum(n.kids.get(0), row, group, o, m);
                return a == null ? null : -a;
            }
            case "count": return (long) group.size();
            case "total": case "least": case "most": {
                Long out = null;
                for (Row r : group) {
                    Long a = sum(n.kids.get(0), r.at, null, o, m);
                    if (a != null) {
                        out = out == null ? a : n.op.equals("total") ? (Long) (out + a)
                                : n.op.equals("least") ? (Long) Math.min(out, a) : (Long) Math.max(out, a);
                    }
                }
                return out;
            }
            default:
        }
        Long a = sum(n.kids.get(0), row, group, o, m);
        Long b = sum(n.kids.get(1), row, group, o, m);
        if (a == null || b == null) {
            return null;
        }
        switch (n.op) {
            case "+": return a + b;
            case "-": return a - b;
            case "*": return a * b;
            case "/": return b == 0 ? null : (Long) (a / b);
            default: throw new Error(n.op);
        }
    }

    static boolean test(Node n, Version[] row, List<Row> group, Oracle o, int m) {
        switch (n.op) {
            case "not": return !test(n.kids.get(0), row, group, o, m);
            case "and": return test(n.kids.get(0), row, group, o, m) && test(n.kids.get(1), row, group, o, m);
            case "or": return test(n.kids.get(0), row, group, o, m) || test(n.kids.get(1), row, group, o, m);
            case "lacks": return sum(n.kids.get(0), row, group, o, m) == null;
            case "some": case "in": {
                Long sought = n.op.equals("in") ? sum(n.kids.get(0), row, group, o, m) : null;
                Version[] all = Arrays.copyOf(row, 3);
                return search(n, all, 0, sought, o, m);
            }
            default:
        }
        Long a = sum(n.kids.get(0), row, group, o, m);
        Long b = sum(n.kids.get(1), row, group, o, m);
        if (a == null || b == null) {
            return false;
        }
        int c = a.compareTo(b);
        switch (n.op) {
            case "<": return c < 0;
            case "<=": return c <= 0;
            case "=": return c == 0;
            case "<>": return c != 0;
            default: throw new Error(n.op);
        }
    }

    static boolean search(Node n, Version[] row, int i, Long sought, Oracle o, int m) {
        if (i == n.tables.size()) {
            if (n.test != null && !test(n.test, row, null, o, m)) {
                return false;
            }
            if (n.op.equals("some")) {
                return true;
            }
            Long v = sum(n.take, row, null, o, m);
            return v != null && sought != null && v.equals(sought);
        }
        for (Version v : o.tables.get(n.tables.get(i)).alive(m)) {
            row[n.firstSource + i] = v;
            if (search(n, row, i + 1, sought, o, m)) {
                return true;
            }
        }
        return false;
    }

    // ================================================================ the state

    String text = "";
    String out = "";
    final List<Tab> tables = new ArrayList<>();
    int moment = 0;
    final List<Told> questions = new ArrayList<>();
    final List<R> runs = new ArrayList<>();
    final List<Ix> indexes = new ArrayList<>();
    final List<K> keeps = new ArrayList<>();
    final List<W> writers = new ArrayList<>();

    static RuntimeException bounds() {
        return new IndexOutOfBoundsException();
    }

    static RuntimeException arg() {
        return new IllegalArgumentException();
    }

    static RuntimeException state() {
        return new IllegalStateException();
    }

    static RuntimeException none() {
        return new NoSuchElementException();
    }

    static <T> T in(List<T> list, int i) {
        if (i < 0 || i >= list.size() || list.get(i) == null) {
            throw bounds();
        }
        return list.get(i);
    }

    static void range(int a, int low, int high) {
        if (a < low || a > high) {
            throw arg();
        }
    }

    Tab tab(int t, int c) {
        Tab x = in(tables, t);
        if (c < 0 || c >= x.columns) {
            throw bounds();
        }
        return x;
    }

    // ---- the text

    int type(long signs) {
        String add = "";
        for (int i = 7; i >= 0; i--) {
            int b = (int) (signs >> (8 * i)) & 0xff;
            if (b == 0) {
                continue;
            }
            if (b < 32 || b > 126) {
                throw arg();
            }
            add += (char) b;
        }
        if ((text + add).length() > 200) {
            throw state();
        }
        text += add;
        return text.length();
    }

    int wipe() {
        int n = text.length();
        text = "";
        return n;
    }

    int fault(boolean kind) {
        read();
        return kind ? faultKind : faultPlace;
    }

    int output(int i) {
        return i >= 0 && i < out.length() ? out.charAt(i) : -1;
    }

    // ---- tables

    int table(int columns) {
        range(columns, 1, 5);
        if (tables.size() == 4) {
            throw state();
        }
        Tab t = new Tab();
        t.columns = columns;
        tables.add(t);
        return tables.size() - 1;
    }

    static List<Version> hits(Told c, List<Version> among, Oracle o) {
        List<Version> out = new ArrayList<>();
        for (Version v : among) {
            if (!c.kind.equals("put") && (c.test == null || test(c.test, new Version[] {v, null, null}, null, o, 0))) {
                out.add(v);
            }
        }
        return out;
    }

    static Version successor(Told c, Version v, Oracle o) {
        Version n = new Version();
        n.v = v.v.clone();
        n.v[c.column] = sum(c.sum, new Version[] {v, null, null}, null, o, 0);
        return n;
    }

    static Version fresh(Told c) {
        Version n = new Version();
        n.v = c.put.toArray(new Long[0]);
        return n;
    }

    int change() {
        Told c = read();
        if (c == null || c.kind.equals("from")) {
            throw arg();
        }
        Tab t = tables.get(c.table);
        List<Version> hit = hits(c, t.alive(moment), this);
        List<Version> added = new ArrayList<>();
        if (c.kind.equals("put")) {
            added.add(fresh(c));
        }
        if (c.kind.equals("set")) {
            for (Version v : hit) {
                added.add(successor(c, v, this));
            }
        }
        if (t.versions.size() + added.size() > 128) {
            throw state();
        }
        Map<Tab, List<Version>> die = new IdentityHashMap<>();
        Map<Tab, List<Version>> put = new LinkedHashMap<>();
        die.put(t, hit);
        put.put(t, added);
        happen(die, put);
        text = "";
        return c.kind.equals("put") ? 1 : hit.size();
    }

    /** One change: the MOMENT, deaths, births, indexes, kept questions. */
    void happen(Map<Tab, List<Version>> die, Map<Tab, List<Version>> put) {
        List<List<Row>> before = new ArrayList<>();
        for (K k : keeps) {
            before.add(k.lost ? null : combos(k.q, moment));
        }
        moment++;
        Set<Version> died = Collections.newSetFromMap(new IdentityHashMap<>());
        Set<Version> born = Collections.newSetFromMap(new IdentityHashMap<>());
        Set<Integer> changed = new HashSet<>();
        for (int i = 0; i < tables.size(); i++) {
            Tab t = tables.get(i);
            for (Version v : die.getOrDefault(t, new ArrayList<>())) {
                v.died = moment;
                died.add(v);
                changed.add(i);
            }
            for (Version v : put.getOrDefault(t, new ArrayList<>())) {
                v.born = moment;
                t.versions.add(v);
                born.add(v);
                changed.add(i);
                for (Ix x : indexes) {
                    if (x.t == t) {
                        x.insert(v);
                    }
                }
            }
        }
        for (int i = 0; i < keeps.size(); i++) {
            K k = keeps.get(i);
            if (k.lost) {
                continue;
            }
            if (!answerable(k.q, moment)) {
                k.lost = true;
                continue;
            }
            boolean inner = false;
            for (Node n : k.q.inners) {
                for (int t : n.tables) {
                    inner |= changed.contains(t);
                }
            }
            List<Row> now = combos(k.q, moment);
            if (inner) {
                k.looked += now.size();
            } else {
                for (Row r : before.get(i)) {
                    k.looked += hasOne(r, died) ? 1 : 0;
                }
                for (Row r : now) {
                    k.looked += hasOne(r, born) ? 1 : 0;
                }
            }
        }
    }

    static boolean hasOne(Row r, Set<Version> of) {
        for (Version v : r.at) {
            if (v != null && of.contains(v)) {
                return true;
            }
        }
        return false;
    }

    int fill(int t, int many, int start, int step, int modulo, boolean lacks) {
        Tab x = in(tables, t);
        range(many, 1, 64);
        range(start, 0, 1000000);
        range(step, 0, 1000000);
        range(modulo, 1, 1000000);
        if (x.versions.size() + many > 128) {
            throw state();
        }
        List<Version> add = new ArrayList<>();
        for (long i = 0; i < many; i++) {
            Version v = new Version();
            v.v = new Long[x.columns];
            for (int j = 0; j < x.columns; j++) {
                long rest = (start + i * step + j * i * i) % modulo;
                v.v[j] = lacks && rest == modulo - 1 ? null : (Long) rest;
            }
            add.add(v);
        }
        Map<Tab, List<Version>> put = new LinkedHashMap<>();
        put.put(x, add);
        happen(new IdentityHashMap<>(), put);
        return x.versions.size();
    }

    int sweep(int t) {
        Tab x = in(tables, t);
        int before = x.versions.size();
        List<Version> left = new ArrayList<>();
        for (Version v : x.versions) {
            if (v.died == -1) {
                left.add(v);
            }
        }
        x.versions = left;
        x.since = moment;
        for (Ix i : indexes) {
            if (i.t == x) {
                i.rebuild();
            }
        }
        return before - left.size();
    }

    int moment() {
        return moment;
    }

    int tableAt(int t, int what) {
        Tab x = in(tables, t);
        range(what, 0, 4);
        return new int[] {x.columns, x.versions.size(), x.alive(moment).size(), x.zones(), x.since}[what];
    }

    int lived(int t, int p, boolean death) {
        Version v = in(in(tables, t).versions, p);
        return death ? v.died : v.born;
    }

    boolean lacks(int t, int p, int c) {
        return in(tab(t, c).versions, p).v[c] == null;
    }

    long value(int t, int p, int c) {
        Long v = in(tab(t, c).versions, p).v[c];
        return v == null ? 0 : v;
    }

    // ---- zones

    int pack(int t, int c, int way) {
        Tab x = tab(t, c);
        range(way, -1, 4);
        int before = x.ways[c];
        x.ways[c] = way;
        return before;
    }

    static int digits(long x) {
        return x == 0 ? 0 : Long.toBinaryString(x).length();
    }

    static void zoneCheck(Tab x, int z) {
        if (z < 0 || z >= x.zones()) {
            throw bounds();
        }
    }

    static int size(Tab x, int c, int z, int way) {
        List<Long> all = new ArrayList<>();
        for (Version v : x.zone(z)) {
            all.add(v.v[c]);
        }
        List<Long> there = new ArrayList<>(all);
        there.removeIf(v -> v == null);
        int g = there.size();
        int m = g < all.size() ? all.size() : 0;
        switch (way) {
            case 0: return m + 64 * g;
            case 1: {
                int n = 0;
                for (int i = 0; i < all.size(); i++) {
                    n += i > 0 && java.util.Objects.equals(all.get(i), all.get(i - 1)) ? 0 : 1;
                }
                return 70 * n;
            }
            case 2: {
                int d = new HashSet<>(there).size();
                return g == 0 ? m : m + 64 * d + g * digits(d - 1);
            }
            case 3: return g == 0 ? m : m + 70 + g * digits(Collections.max(there) - Collections.min(there));
            default: {
                if (g == 0) {
                    return m;
                }
                List<Long> steps = new ArrayList<>();
                for (int i = 1; i < g; i++) {
                    steps.add(there.get(i) - there.get(i - 1));
                }
                return m + 134 + (g == 1 ? 0 : (g - 1) * digits(Collections.max(steps) - Collections.min(steps)));
            }
        }
    }

    static int way(Tab x, int c, int z) {
        if (x.ways[c] != -1) {
            return x.ways[c];
        }
        int best = 0;
        for (int w = 1; w < 5; w++) {
            if (size(x, c, z, w) < size(x, c, z, best)) {
                best = w;
            }
        }
        return best;
    }

    int wayOf(int t, int c, int z) {
        Tab x = tab(t, c);
        zoneCheck(x, z);
        return way(x, c, z);
    }

    int sizeOf(int t, int c, int z, int way) {
        Tab x = tab(t, c);
        zoneCheck(x, z);
        range(way, 0, 4);
        return size(x, c, z, way);
    }

    static List<Long> inZone(Tab x, int c, int z) {
        List<Long> out = new ArrayList<>();
        for (Version v : x.zone(z)) {
            if (v.v[c] != null) {
                out.add(v.v[c]);
            }
        }
        return out;
    }

    long bound(int t, int c, int z, boolean greatest) {
        Tab x = tab(t, c);
        zoneCheck(x, z);
        List<Long> there = inZone(x, c, z);
        if (there.isEmpty()) {
            throw none();
        }
        return greatest ? Collections.max(there) : Collections.min(there);
    }

    int tally(int t) {
        Tab x = in(tables, t);
        int all = 0;
        for (int c = 0; c < x.columns; c++) {
            Set<Long> unlike = new HashSet<>();
            for (Version v : x.alive(moment)) {
                unlike.add(v.v[c]);
            }
            unlike.remove(null);
            x.tallies[c] = unlike.size();
            all += unlike.size();
        }
        return all;
    }

    int tallied(int t, int c) {
        return tab(t, c).tallies[c];
    }

    double meanSize(int t) {
        Tab x = in(tables, t);
        long bits = 0;
        for (int c = 0; c < x.columns; c++) {
            for (int z = 0; z < x.zones(); z++) {
                bits += size(x, c, z, way(x, c, z));
            }
        }
        return x.versions.isEmpty() ? 0.0 : (double) bits / (double) (x.versions.size() * x.columns);
    }

    // ---- questions

    int ask() {
        Told t = read();
        if (t == null || !t.kind.equals("from")) {
            throw arg();
        }
        if (questions.size() == 12) {
            throw state();
        }
        questions.add(t);
        text = "";
        return questions.size() - 1;
    }

    static boolean isBareRef(Node n) {
        return n.op.equals("ref") && !n.bracketed;
    }

    static boolean isEquality(Node n) {
        return n.op.equals("=") && !n.bracketed && isBareRef(n.kids.get(0)) && isBareRef(n.kids.get(1))
                && n.kids.get(0).source != n.kids.get(1).source;
    }

    static List<Node> equalities(Told q) {
        List<Node> out = new ArrayList<>();
        for (Node n : q.conjuncts) {
            if (isEquality(n)) {
                out.add(n);
            }
        }
        return out;
    }

    int questionAt(int q, int what) {
        Told t = in(questions, q);
        range(what, 0, 5);
        return new int[] {t.tables.size(), t.conjuncts.size(), t.items.size(), t.keys.size(), t.grouped ? 1 : 0,
            equalities(t).size()}[what];
    }

    static boolean isTest(Node n) {
        return Arrays.asList("not", "and", "or", "lacks", "<", "<=", "=", "<>", "some", "in").contains(n.op);
    }

    static String ref(Node n) {
        return "" + (char) ('v' + n.column) + n.source;
    }

    static String prog(Node n) {
        if (n.isFixed()) {
            if (isTest(n)) {
                return test(n, new Version[3], null, null, 0) ? "so" : "no";
            }
            Long v = sum(n, new Version[3], null, null, 0);
            return v == null ? "lack" : v.toString();
        }
        if (n.op.equals("ref")) {
            return ref(n);
        }
        if (n.op.equals("some") || n.op.equals("in")) {
            String s = n.op.equals("in") ? prog(n.kids.get(0)) + " " : "";
            s += "from";
            for (int t : n.tables) {
                s += " " + (char) ('a' + t);
            }
            if (n.test != null) {
                s += " " + prog(n.test) + " where";
            }
            return s + (n.take == null ? "" : " " + prog(n.take)) + " " + n.op;
        }
        String s = "";
        for (Node k : n.kids) {
            s += prog(k) + " ";
        }
        return s + n.op;
    }

    static String prog(Item i) {
        if (i.over == null) {
            return prog(i.sum);
        }
        String s = i.sum == null ? "" : prog(i.sum) + " ";
        for (Node n : i.span) {
            s += ref(n) + " ";
        }
        return s + "along " + ref(i.along) + " " + i.over;
    }

    int program(int q, int what, int index) {
        Told t = in(questions, q);
        range(what, 0, 3);
        List<String> all = new ArrayList<>();
        if (what == 0) {
            for (Node n : t.conjuncts) {
                all.add(prog(n));
            }
        } else if (what == 1) {
            for (Item i : t.items) {
                all.add(prog(i));
            }
        } else if (what == 2) {
            for (Item i : t.keys) {
                all.add(prog(i));
            }
        } else if (t.with != null) {
            all.add(prog(t.with));
        }
        if (index < 0 || index >= all.size()) {
            throw none();
        }
        out = all.get(index);
        return out.length();
    }

    boolean answerable(Told q, int m) {
        List<Integer> all = new ArrayList<>(q.tables);
        long own = 1;
        for (int t : q.tables) {
            own *= tables.get(t).alive(m).size();
        }
        boolean ok = own <= 500;
        for (Node n : q.inners) {
            long both = own;
            for (int t : n.tables) {
                both *= tables.get(t).alive(m).size();
                all.add(t);
            }
            ok &= both <= 500;
        }
        for (int t : all) {
            ok &= tables.get(t).since <= m;
        }
        return ok;
    }

    /** All combinations of the sources of a set, as of a moment. */
    List<Row> combos(List<Integer> sources, int set, int m) {
        List<Row> rows = new ArrayList<>();
        Row first = new Row();
        first.at = new Version[3];
        first.places = new int[3];
        rows.add(first);
        for (int s = 0; s < sources.size(); s++) {
            if ((set >> s & 1) == 0) {
                continue;
            }
            List<Row> next = new ArrayList<>();
            Tab t = tables.get(sources.get(s));
            for (Row r : rows) {
                for (int p = 0; p < t.versions.size(); p++) {
                    Version v = t.versions.get(p);
                    if (v.born <= m && (v.died == -1 || v.died > m)) {
                        Row n = new Row();
                        n.at = r.at.clone();
                        n.places = r.places.clone();
                        n.at[s] = v;
                        n.places[s] = p;
                        next.add(n);
                    }
                }
            }
            rows = next;
        }
        return rows;
    }

    List<Row> combos(Told q, int m) {
        return combos(q.tables, 7, m);
    }

    /** Those combinations for which all conjuncts are so that have refs of the set alone. */
    List<Row> staying(Told q, int set, int m) {
        List<Row> out = new ArrayList<>();
        for (Row r : combos(q.tables, set, m)) {
            boolean ok = true;
            for (Node c : q.conjuncts) {
                Set<Integer> refs = new HashSet<>();
                c.refs(refs, q.tables.size());
                boolean within = true;
                for (int s : refs) {
                    within &= (set >> s & 1) == 1;
                }
                ok = ok && (!within || test(c, r.at, null, this, m));
            }
            if (ok) {
                out.add(r);
            }
        }
        return out;
    }

    static int compare(Long a, Long b) {
        return a == null ? b == null ? 0 : -1 : b == null ? 1 : a.compareTo(b);
    }

    static final class Answer {
        int rows;
        int staying;
        List<Long[]> values = new ArrayList<>();
    }

    Answer answer(Told q, int m) {
        List<Row> rows = new ArrayList<>();
        for (Row r : combos(q, m)) {
            if (q.test == null || test(q.test, r.at, null, this, m)) {
                rows.add(r);
            }
        }
        Answer a = new Answer();
        a.rows = rows.size();
        List<Long[]> values = new ArrayList<>();
        List<Long[]> keys = new ArrayList<>();
        if (q.grouped) {
            Map<List<Long>, List<Row>> groups = new LinkedHashMap<>();
            if (q.by.isEmpty()) {
                groups.put(new ArrayList<>(), new ArrayList<>());
            }
            for (Row r : rows) {
                List<Long> key = new ArrayList<>();
                for (Node b : q.by) {
                    key.add(r.at[b.source].v[b.column]);
                }
                groups.computeIfAbsent(key, k -> new ArrayList<>()).add(r);
            }
            for (List<Row> g : groups.values()) {
                Version[] at = g.isEmpty() ? new Version[3] : g.get(0).at;
                if (q.with == null || test(q.with, at, g, this, m)) {
                    values.add(evaluated(q.items, at, g, rows, m));
                    keys.add(evaluated(q.keys, at, g, rows, m));
                }
            }
        } else {
            for (Row r : rows) {
                values.add(evaluated(q.items, r.at, null, rows, m));
                keys.add(evaluated(q.keys, r.at, null, rows, m));
            }
        }
        a.staying = values.size();
        List<Integer> order = new ArrayList<>();
        for (int i = 0; i < values.size(); i++) {
            order.add(i);
        }
        order.sort((i, j) -> {
            for (int k = 0; k < q.keys.size(); k++) {
                int c = compare(keys.get(i)[k], keys.get(j)[k]);
                if (c != 0) {
                    return q.keys.get(k).down ? -c : c;
                }
            }
            return 0;
        });
        for (int i : order) {
            if (q.first < 0 || a.values.size() < q.first) {
                a.values.add(values.get(i));
            }
        }
        return a;
    }

    Long[] evaluated(List<Item> items, Version[] at, List<Row> group, List<Row> rows, int m) {
        Long[] out = new Long[items.size()];
        for (int i = 0; i < out.length; i++) {
            Item item = items.get(i);
            if (item.over == null) {
                out[i] = sum(item.sum, at, group, this, m);
                continue;
            }
            long rank = 1;
            Long run = null;
            for (Row r : rows) {
                boolean like = true;
                for (Node p : item.span) {
                    like &= compare(r.at[p.source].v[p.column], at[p.source].v[p.column]) == 0;
                }
                int c = compare(r.at[item.along.source].v[item.along.column], at[item.along.source].v[item.along.column]);
                if (like && c < 0) {
                    rank++;
                }
                if (like && c <= 0 && item.over.equals("run")) {
                    Long s = sum(item.sum, r.at, null, this, m);
                    run = s == null ? run : run == null ? s : (Long) (run + s);
                }
            }
            out[i] = item.over.equals("rank") ? (Long) rank : run;
        }
        return out;
    }

    int rows(int q, int m) {
        Told t = in(questions, q);
        range(m, 0, moment);
        if (!answerable(t, m)) {
            throw state();
        }
        return answer(t, m).values.size();
    }

    // ---- plans

    boolean shut(Told q, int s, int z, int m) {
        Tab t = tables.get(q.tables.get(s));
        boolean alive = false;
        List<Version> living = t.alive(m);
        for (Version v : t.zone(z)) {
            for (Version l : living) {
                alive |= l == v;
            }
        }
        if (!alive) {
            return true;
        }
        for (Node c : q.conjuncts) {
            if (c.bracketed) {
                continue;
            }
            if (c.op.equals("lacks") && isBareRef(c.kids.get(0)) && c.kids.get(0).source == s
                    && inZone(t, c.kids.get(0).column, z).size() == t.zone(z).size()) {
                return true;
            }
            if (!Arrays.asList("<", "<=", "=", "<>").contains(c.op)) {
                continue;
            }
            for (int side = 0; side < 2; side++) {
                Node r = c.kids.get(side);
                Node e = c.kids.get(1 - side);
                if (!isBareRef(r) || r.source != s || !e.isFixed()) {
                    continue;
                }
                Long v = sum(e, new Version[3], null, this, m);
                List<Long> there = inZone(t, r.column, z);
                if (v == null || there.isEmpty()) {
                    return true;
                }
                long low = Collections.min(there);
                long high = Collections.max(there);
                // some number of the range for which it is so: the ends, the value itself, and its neighbours will do
                boolean possible = false;
                for (long n : new long[] {low, high, v}) {
                    if (n >= low && n <= high) {
                        long a = side == 0 ? n : v;
                        long b = side == 0 ? v : n;
                        possible |= c.op.equals("<") ? a < b : c.op.equals("<=") ? a <= b : c.op.equals("=") ? a == b : a != b;
                    }
                }
                if (!possible) {
                    return true;
                }
            }
        }
        return false;
    }

    int leftZones(Told q, int s, int m) {
        int n = 0;
        for (int z = 0; z < tables.get(q.tables.get(s)).zones(); z++) {
            n += shut(q, s, z, m) ? 1 : 0;
        }
        return n;
    }

    int read(Told q, int s, int m) {
        int n = 0;
        for (int z = 0; z < tables.get(q.tables.get(s)).zones(); z++) {
            n += shut(q, s, z, m) ? 0 : tables.get(q.tables.get(s)).zone(z).size();
        }
        return n;
    }

    int leftOut(int q, int s, int m, boolean isRead) {
        Told t = in(questions, q);
        if (s < 0 || s >= t.tables.size()) {
            throw bounds();
        }
        range(m, 0, moment);
        return isRead ? read(t, s, m) : leftZones(t, s, m);
    }

    static long up(long a, long b) {
        long d = b == 0 ? 1 : b;
        return (a + d - 1) / d;
    }

    int tallyOf(Told q, Node ref) {
        return tables.get(q.tables.get(ref.source)).tallies[ref.column];
    }

    long est(Told q, int set, int m) {
        long n = 1;
        for (int s = 0; s < q.tables.size(); s++) {
            n *= (set >> s & 1) == 1 ? read(q, s, m) : 1;
        }
        for (Node e : equalities(q)) {
            Node a = e.kids.get(0);
            Node b = e.kids.get(1);
            if ((set >> a.source & 1) == 1 && (set >> b.source & 1) == 1) {
                n = up(n, Math.max(tallyOf(q, a), tallyOf(q, b)));
            }
        }
        return n;
    }

    long estimate(int q, int set, int m) {
        Told t = in(questions, q);
        range(set, 1, (1 << t.tables.size()) - 1);
        range(m, 0, moment);
        return est(t, set, m);
    }

    static long passes(long n, long r) {
        if (n <= r) {
            return 0;
        }
        long p = 0;
        while (Math.pow(r, p + 1) < n) {
            p++;
        }
        return p;
    }

    static final class Plan {
        char op;
        int source;
        Plan left;
        Plan right;

        int set() {
            return left == null ? 1 << source : left.set() | right.set();
        }

        int leaves() {
            return left == null ? 1 : left.leaves() + right.leaves();
        }
    }

    /** The plan of a text; null if it is no lawful one. */
    Plan plan(Told q, String s) {
        int[] at = {0};
        Plan p = plan(q, s, at);
        boolean ok = p != null && at[0] == s.length() && p.leaves() == q.tables.size()
                && p.set() == (1 << q.tables.size()) - 1 && lawful(q, p);
        return ok ? p : null;
    }

    Plan plan(Told q, String s, int[] at) {
        if (at[0] >= s.length()) {
            return null;
        }
        char c = s.charAt(at[0]++);
        Plan p = new Plan();
        if (c >= '0' && c <= '9') {
            p.source = c - '0';
            return p.source < q.tables.size() ? p : null;
        }
        if (c != '(') {
            return null;
        }
        p.left = plan(q, s, at);
        if (p.left == null || at[0] >= s.length()) {
            return null;
        }
        p.op = s.charAt(at[0]++);
        p.right = plan(q, s, at);
        if (p.right == null || at[0] >= s.length() || s.charAt(at[0]++) != ')' || "xhmi".indexOf(p.op) < 0) {
            return null;
        }
        return p;
    }

    /** The sides of the first equality: first that of the left part, then that of the right one. */
    Node[] sides(Told q, Plan p) {
        for (Node e : equalities(q)) {
            for (int i = 0; i < 2; i++) {
                Node a = e.kids.get(i);
                Node b = e.kids.get(1 - i);
                if ((p.left.set() >> a.source & 1) == 1 && (p.right.set() >> b.source & 1) == 1) {
                    return new Node[] {a, b};
                }
            }
        }
        return null;
    }

    Ix indexFor(Told q, Node ref) {
        for (Ix x : indexes) {
            if (x.table == q.tables.get(ref.source) && x.column == ref.column) {
                return x;
            }
        }
        return null;
    }

    boolean lawful(Told q, Plan p) {
        if (p.left == null) {
            return true;
        }
        if (!lawful(q, p.left) || !lawful(q, p.right)) {
            return false;
        }
        if (p.op == 'x') {
            return true;
        }
        Node[] s = sides(q, p);
        return s != null && (p.op != 'i' || p.right.left == null && indexFor(q, s[1]) != null);
    }

    long cost(Told q, Plan p, int m, int r) {
        if (p.left == null) {
            return 0;
        }
        long e = est(q, p.left.set(), m);
        long f = est(q, p.right.set(), m);
        long own;
        switch (p.op) {
            case 'x': own = e * f; break;
            case 'h': own = (f > r ? 2 : 1) * (e + f); break;
            case 'm': own = (1 + passes(e, r)) * e + (1 + passes(f, r)) * f; break;
            default: {
                Node right = sides(q, p)[1];
                own = e * (1 + up(tables.get(q.tables.get(right.source)).versions.size(), tallyOf(q, right)));
            }
        }
        return own + cost(q, p.left, m, r) + cost(q, p.right, m, r);
    }

    long cost(int q, int m, int r) {
        Told t = in(questions, q);
        range(m, 0, moment);
        range(r, 2, 64);
        Plan p = plan(t, text);
        if (p == null) {
            throw arg();
        }
        return cost(t, p, m, r);
    }

    /** All texts of plans of some sources. */
    static TreeSet<String> texts(int set) {
        TreeSet<String> out = new TreeSet<>();
        if (Integer.bitCount(set) == 1) {
            out.add("" + Integer.numberOfTrailingZeros(set));
        }
        for (int left = 1; left < set; left++) {
            if ((left & ~set) == 0 && left != set) {
                for (String a : texts(left)) {
                    for (String b : texts(set & ~left)) {
                        for (String op : new String[] {"x", "h", "m", "i"}) {
                            out.add("(" + a + op + b + ")");
                        }
                    }
                }
            }
        }
        return out;
    }

    String bestText(Told q, int m, int r) {
        String best = null;
        long least = 0;
        for (String s : texts((1 << q.tables.size()) - 1)) {
            Plan p = plan(q, s);
            if (p != null && (best == null || cost(q, p, m, r) < least)) {
                best = s;
                least = cost(q, p, m, r);
            }
        }
        return best;
    }

    long best(int q, int m, int r) {
        Told t = in(questions, q);
        range(m, 0, moment);
        range(r, 2, 64);
        out = bestText(t, m, r);
        return cost(t, plan(t, out), m, r);
    }

    // ---- runs

    static final class R {
        int moment;
        int batch;
        int room;
        int state = 0;
        int items;
        List<int[]> tasks = new ArrayList<>();
        List<Long[]> answer;
        int left = 0;
        int zones = 0;
        int steps = 0;

        int c(long n) {
            return (int) ((n + batch - 1) / batch);
        }

        /** The task at hand, by the steps that were done. */
        int task() {
            int rest = steps;
            for (int i = 0; i < tasks.size(); i++) {
                rest -= tasks.get(i)[3];
                if (rest < 0) {
                    return i;
                }
            }
            return tasks.size();
        }

        int given() {
            int ahead = 0;
            for (int i = 0; i < tasks.size() - 1; i++) {
                ahead += tasks.get(i)[3];
            }
            return Math.min(answer.size(), Math.max(0, steps - ahead) * batch);
        }

        int all() {
            int n = 0;
            for (int[] t : tasks) {
                n += t[3];
            }
            return n;
        }
    }

    int rooms() {
        int n = 0;
        for (R r : runs) {
            n += r != null && r.state == 0 ? r.room : 0;
        }
        return n;
    }

    int open(int q, int m, int batch, int room) {
        Told t = in(questions, q);
        range(m, 0, moment);
        range(batch, 1, 64);
        range(room, 2, 64);
        Plan p = plan(t, text.isEmpty() ? bestText(t, m, room) : text);
        if (p == null) {
            throw arg();
        }
        if (!answerable(t, m) || runs.size() == 30 || rooms() + room > 100) {
            throw state();
        }
        R r = new R();
        r.moment = m;
        r.batch = batch;
        r.room = room;
        r.items = t.items.size();
        Answer a = answer(t, m);
        r.answer = a.values;
        lay(r, t, p, false);
        boolean over = false;
        for (Item i : t.items) {
            over |= i.over != null;
        }
        if (t.grouped) {
            pass(r, 4, a.rows, a.staying);
        } else if (over) {
            pass(r, 5, a.rows, a.rows);
        }
        pass(r, 6, a.staying, a.staying);
        r.tasks.add(new int[] {7, a.staying, a.values.size(), r.c(a.values.size()), 0});
        r.state = r.task() == r.tasks.size() ? 2 : 0;
        runs.add(r);
        text = "";
        return runs.size() - 1;
    }

    void pass(R r, int kind, int in, int out) {
        int p = (int) passes(in, r.room);
        r.tasks.add(new int[] {kind, in, out, (1 + p) * r.c(in), p * in});
    }

    void lay(R r, Told q, Plan p, boolean isLookedUp) {
        int m = r.moment;
        if (p.left == null) {
            if (isLookedUp) {
                return;
            }
            int zones = tables.get(q.tables.get(p.source)).zones();
            int left = leftZones(q, p.source, m);
            r.left += left;
            r.zones += zones;
            r.tasks.add(new int[] {0, read(q, p.source, m), staying(q, p.set(), m).size(), zones - left, 0});
            return;
        }
        lay(r, q, p.left, false);
        lay(r, q, p.right, p.op == 'i');
        List<Row> left = staying(q, p.left.set(), m);
        int e = left.size();
        int f = staying(q, p.right.set(), m).size();
        int out = staying(q, p.set(), m).size();
        int pe = (int) passes(e, r.room);
        int pf = (int) passes(f, r.room);
        boolean tooMuch = f > r.room;
        switch (p.op) {
            case 'x': r.tasks.add(new int[] {1, e + f, out, r.c(e) * r.c(f), 0}); break;
            case 'h': r.tasks.add(new int[] {2, e + f, out, (r.c(e) + r.c(f)) * (tooMuch ? 2 : 1), tooMuch ? e + f : 0}); break;
            case 'm': r.tasks.add(new int[] {3, e + f, out, (1 + pe) * r.c(e) + (1 + pf) * r.c(f), pe * e + pf * f}); break;
            default: {
                Node[] sides = sides(q, p);
                int found = 0;
                for (Row row : left) {
                    Long v = row.at[sides[0].source].v[sides[0].column];
                    for (Version w : tables.get(q.tables.get(sides[1].source)).versions) {
                        found += v != null && v.equals(w.v[sides[1].column]) ? 1 : 0;
                    }
                }
                r.tasks.add(new int[] {8, e + found, out, r.c(e) + r.c(found), 0});
            }
        }
    }

    int step(int run, int steps) {
        R r = in(runs, run);
        range(steps, 1, 100000);
        if (r.state != 0) {
            throw state();
        }
        int did = Math.min(steps, r.all() - r.steps);
        r.steps += did;
        r.state = r.task() == r.tasks.size() ? 2 : 0;
        return did;
    }

    int turn(int run) {
        R r = in(runs, run);
        if (r.state == 2 || r.state == 1 && rooms() + r.room > 100) {
            throw state();
        }
        r.state = 1 - r.state;
        return r.state;
    }

    int close(int run) {
        R r = in(runs, run);
        runs.set(run, null);
        return r.state;
    }

    int runAt(int run, int what) {
        R r = in(runs, run);
        range(what, 0, 8);
        int spilled = 0;
        for (int i = 0; i < r.task(); i++) {
            spilled += r.tasks.get(i)[4];
        }
        return new int[] {r.state, r.steps, r.state == 2 ? -1 : r.task(), r.given(), spilled, r.left, r.zones - r.left,
            r.tasks.size(), r.moment}[what];
    }

    int taskAt(int run, int task, int what) {
        R r = in(runs, run);
        int[] t = in(r.tasks, task);
        range(what, 0, 4);
        if (what != 0 && task >= r.task()) {
            throw none();
        }
        return t[what];
    }

    Long given(int run, int row, int item) {
        R r = in(runs, run);
        if (item < 0 || item >= r.items) {
            throw bounds();
        }
        if (row < 0 || row >= r.given()) {
            throw none();
        }
        return r.answer.get(row)[item];
    }

    boolean isLacking(int run, int row, int item) {
        return given(run, row, item) == null;
    }

    long answer(int run, int row, int item) {
        Long v = given(run, row, item);
        return v == null ? 0 : v;
    }

    float leftShare(int run) {
        R r = in(runs, run);
        return r.zones == 0 ? 0.0f : (float) r.left / (float) r.zones;
    }

    long checksum(int run) {
        R r = in(runs, run);
        long sum = 0;
        for (int i = 0; i < r.given(); i++) {
            for (Long v : r.answer.get(i)) {
                sum = 31 * sum + (v == null ? 1000003 : v);
            }
        }
        return sum;
    }

    // ---- indexes

    /** A page of the level 0 holds versions, one above holds pages. */
    static final class Page {
        List<Version> entries = new ArrayList<>();
        List<Page> pages = new ArrayList<>();

        Version first() {
            return pages.isEmpty() ? entries.get(0) : pages.get(0).first();
        }
    }

    final class Ix {
        int table;
        int column;
        Tab t;
        List<List<Page>> levels = new ArrayList<>();

        void rebuild() {
            levels.clear();
            levels.add(new ArrayList<>());
            levels.get(0).add(new Page());
            for (Version v : t.versions) {
                insert(v);
            }
        }

        /** Versions are compared by value and place; a new one stands behind all others of its value. */
        boolean isBehind(Version v, Version w) {
            int c = v.v[column].compareTo(w.v[column]);
            return c != 0 ? c > 0 : t.versions.indexOf(v) > t.versions.indexOf(w);
        }

        void insert(Version v) {
            if (v.v[column] == null) {
                return;
            }
            List<Page> ground = levels.get(0);
            Page into = ground.get(0);
            for (Page p : ground) {
                if (!p.entries.isEmpty() && isBehind(v, p.entries.get(0))) {
                    into = p;
                }
            }
            int at = 0;
            while (at < into.entries.size() && isBehind(v, into.entries.get(at))) {
                at++;
            }
            into.entries.add(at, v);
            if (into.entries.size() == 9) {
                Page next = new Page();
                next.entries.addAll(into.entries.subList(4, 9));
                into.entries = new ArrayList<>(into.entries.subList(0, 4));
                added(0, into, next);
            }
        }

        void added(int level, Page old, Page next) {
            List<Page> l = levels.get(level);
            l.add(l.indexOf(old) + 1, next);
            if (level + 1 == levels.size()) {
                Page top = new Page();
                top.pages.addAll(l);
                levels.add(new ArrayList<>());
                levels.get(level + 1).add(top);
                return;
            }
            for (Page parent : new ArrayList<>(levels.get(level + 1))) {
                int i = parent.pages.indexOf(old);
                if (i >= 0) {
                    parent.pages.add(i + 1, next);
                    if (parent.pages.size() == 9) {
                        Page cut = new Page();
                        cut.pages.addAll(parent.pages.subList(4, 9));
                        parent.pages = new ArrayList<>(parent.pages.subList(0, 4));
                        added(level + 1, parent, cut);
                    }
                }
            }
        }

        List<Version> entries() {
            List<Version> out = new ArrayList<>();
            for (Page p : levels.get(0)) {
                out.addAll(p.entries);
            }
            return out;
        }
    }

    int index(int t, int c) {
        Tab x = tab(t, c);
        for (Ix i : indexes) {
            if (i.t == x && i.column == c) {
                throw state();
            }
        }
        if (indexes.size() == 6) {
            throw state();
        }
        Ix i = new Ix();
        i.table = t;
        i.column = c;
        i.t = x;
        i.rebuild();
        indexes.add(i);
        return indexes.size() - 1;
    }

    int indexAt(int i, int what) {
        Ix x = in(indexes, i);
        range(what, 0, 3);
        return new int[] {x.table, x.column, x.entries().size(), x.levels.size()}[what];
    }

    int page(int i, int level, int page) {
        Ix x = in(indexes, i);
        if (level < 0 || level >= x.levels.size() || page < 0 || page >= x.levels.get(level).size()) {
            throw none();
        }
        Page p = x.levels.get(level).get(page);
        return level == 0 ? p.entries.size() : p.pages.size();
    }

    int entry(int i, int entry) {
        Ix x = in(indexes, i);
        if (entry < 0 || entry >= x.entries().size()) {
            throw none();
        }
        return x.t.versions.indexOf(x.entries().get(entry));
    }

    int seek(int i, long value) {
        Ix x = in(indexes, i);
        int n = 0;
        for (Version v : x.entries()) {
            n += v.v[x.column] < value ? 1 : 0;
        }
        return n;
    }

    // ---- kept questions

    static final class K {
        Told q;
        int number;
        boolean lost = false;
        long looked = 0;
    }

    int keep(int q) {
        Told t = in(questions, q);
        if (!answerable(t, moment) || keeps.size() == 4) {
            throw state();
        }
        K k = new K();
        k.q = t;
        k.number = q;
        keeps.add(k);
        return keeps.size() - 1;
    }

    long keptAt(int k, int what) {
        K x = in(keeps, k);
        range(what, 0, 3);
        return what == 0 ? (x.lost ? 1 : 0) : what == 1 ? (x.lost ? 0 : answer(x.q, moment).values.size())
                : what == 2 ? x.looked : x.number;
    }

    Long keptValue(int k, int row, int item) {
        K x = in(keeps, k);
        if (item < 0 || item >= x.q.items.size()) {
            throw bounds();
        }
        if (x.lost || row < 0 || row >= answer(x.q, moment).values.size()) {
            throw none();
        }
        return answer(x.q, moment).values.get(row)[item];
    }

    boolean keptLacks(int k, int row, int item) {
        return keptValue(k, row, item) == null;
    }

    long kept(int k, int row, int item) {
        Long v = keptValue(k, row, item);
        return v == null ? 0 : v;
    }

    // ---- writers

    /** A version of a view: a copy, with the version that it is a copy of, if it was not put. */
    static final class Seen {
        Version v;
        Version of;
    }

    static final class W {
        int start;
        boolean strict;
        int state = 0;
        Map<Integer, List<Seen>> views = new TreeMap<>();
        List<Told> log = new ArrayList<>();
        Set<Version> ended = Collections.newSetFromMap(new IdentityHashMap<>());

        List<Seen> view(int t) {
            return views.computeIfAbsent(t, k -> new ArrayList<>());
        }

        int puts(int t) {
            int n = 0;
            for (Seen s : view(t)) {
                n += s.of == null ? 1 : 0;
            }
            return n;
        }
    }

    static Seen seen(Version v, Version of) {
        Seen s = new Seen();
        s.v = v;
        s.of = of;
        return s;
    }

    int begin(boolean strict) {
        if (writers.size() == 12) {
            throw state();
        }
        W w = new W();
        w.start = moment;
        w.strict = strict;
        for (int t = 0; t < tables.size(); t++) {
            for (Version v : tables.get(t).alive(moment)) {
                w.view(t).add(seen(v, v));
            }
        }
        writers.add(w);
        return writers.size() - 1;
    }

    /** Does a change to a view; returns how many it ended. */
    int doTo(List<Seen> view, Told c, Set<Version> ended) {
        List<Seen> left = new ArrayList<>();
        List<Seen> added = new ArrayList<>();
        int hits = 0;
        for (Seen s : view) {
            if (hits(c, Collections.singletonList(s.v), this).isEmpty()) {
                left.add(s);
                continue;
            }
            hits++;
            if (s.of != null) {
                ended.add(s.of);
            }
            if (c.kind.equals("set")) {
                added.add(seen(successor(c, s.v, this), null));
            }
        }
        if (c.kind.equals("put")) {
            added.add(seen(fresh(c), null));
        }
        view.clear();
        view.addAll(left);
        view.addAll(added);
        return c.kind.equals("put") ? 1 : hits;
    }

    int write(int w) {
        W x = in(writers, w);
        Told c = read();
        if (c == null || c.kind.equals("from")) {
            throw arg();
        }
        if (x.state != 0) {
            throw state();
        }
        if (c.kind.equals("put") && x.view(c.table).size() >= 128) {
            throw state();
        }
        x.log.add(c);
        text = "";
        return doTo(x.view(c.table), c, x.ended);
    }

    boolean refused(W x) {
        for (Version v : x.ended) {
            if (v.died != -1) {
                return true;
            }
        }
        if (!x.strict) {
            return false;
        }
        List<List<Seen>> anew = new ArrayList<>();
        for (Tab t : tables) {
            List<Seen> view = new ArrayList<>();
            for (Version v : t.alive(moment)) {
                view.add(seen(v, v));
            }
            anew.add(view);
        }
        Set<Version> ended = Collections.newSetFromMap(new IdentityHashMap<>());
        for (Told c : x.log) {
            doTo(anew.get(c.table), c, ended);
        }
        if (ended.size() != x.ended.size() || !ended.containsAll(x.ended)) {
            return true;
        }
        for (int t = 0; t < tables.size(); t++) {
            List<List<Long>> a = new ArrayList<>();
            List<List<Long>> b = new ArrayList<>();
            for (Seen s : anew.get(t)) {
                if (s.of == null) {
                    a.add(Arrays.asList(s.v.v));
                }
            }
            for (Seen s : x.view(t)) {
                if (s.of == null) {
                    b.add(Arrays.asList(s.v.v));
                }
            }
            if (!a.equals(b)) {
                return true;
            }
        }
        return false;
    }

    int finish(int w, boolean given) {
        W x = in(writers, w);
        if (x.state != 0) {
            throw state();
        }
        if (given) {
            x.state = 3;
        } else if (refused(x)) {
            x.state = 2;
        } else {
            Map<Tab, List<Version>> die = new IdentityHashMap<>();
            Map<Tab, List<Version>> put = new IdentityHashMap<>();
            for (int t = 0; t < tables.size(); t++) {
                Tab tab = tables.get(t);
                if (tab.versions.size() + x.puts(t) > 128) {
                    throw state();
                }
                List<Version> d = new ArrayList<>();
                for (Version v : tab.versions) {
                    if (x.ended.contains(v)) {
                        d.add(v);
                    }
                }
                List<Version> p = new ArrayList<>();
                for (Seen s : x.view(t)) {
                    if (s.of == null) {
                        Version v = new Version();
                        v.v = s.v.v;
                        p.add(v);
                    }
                }
                die.put(tab, d);
                put.put(tab, p);
            }
            happen(die, put);
            x.state = 1;
        }
        return x.state;
    }

    int writerAt(int w, int what) {
        W x = in(writers, w);
        range(what, 0, 3);
        int puts = 0;
        for (int t = 0; t < 4; t++) {
            puts += x.puts(t);
        }
        return new int[] {x.state, x.start, x.ended.size(), puts}[what];
    }

    long view(int w, int t, int row, int c) {
        W x = in(writers, w);
        if (row == -1) {
            in(tables, t);
        } else {
            tab(t, c);
        }
        if (x.state != 0) {
            throw state();
        }
        List<Seen> view = x.view(t);
        if (row == -1) {
            return view.size();
        }
        if (row < 0 || row >= view.size()) {
            throw none();
        }
        Long v = view.get(row).v.v[c];
        return v == null ? 0 : v;
    }

    int errors() {
        return 0;
    }
}
