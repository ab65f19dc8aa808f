import java.util.ArrayList;
import java.util.List;

/** Boundary cases of zones that are left out, of estimates and plans: section 6 and the promises 25 to 28. */
public final class EdgePlans extends Edges {
    public static void main(String[] args) {
        aliveZones();
        shutByComparisons();
        shutByLacks();
        whatShutsNothing();
        emptyColumns();
        reads();
        leftOutRefused();
        estimates();
        estimatesRefused();
        texts();
        byEquality();
        withoutBrackets();
        byIndex();
        passes();
        costs();
        costsRefused();
        best();
        bestAmongAll();
        bestRefused();
        finish();
    }

    /** A table of 40 versions, v from 0 on (the zones 0 to 15, 16 to 31 and 32 to 39), and w LACKING in the zone 1. */
    private static void three() {
        x = new Columnworks();
        x.table(2);
        x.fill(0, 16, 0, 1, 1000, false);
        for (int i = 16; i < 32; i++) {
            change("put a " + i + ",lack;");
        }
        x.fill(0, 8, 32, 1, 1000, false);
    }

    private static void shut(String test, int zones) {
        three();
        ask("from a where " + test + " take 1;");
        due(zones, "the zones that are LEFT OUT by " + test, () -> x.leftOut(0, 0, x.moment(), false));
        due(0, "errors()", () -> x.errors());
    }

    private static void aliveZones() {
        edge("section 6", "A zone is LEFT OUT as of a moment if no version of it is alive as of it");
        x.table(1);
        ask("from a take v0;");
        due("0 0", "without zones", () -> x.leftOut(0, 0, 0, false) + " " + x.leftOut(0, 0, 0, true));
        x.fill(0, 16, 0, 1, 1000, false);
        x.fill(0, 4, 16, 1, 1000, false);
        due("2 0", "as of 0", () -> x.leftOut(0, 0, 0, false) + " " + x.leftOut(0, 0, 0, true));
        due("1 16", "as of 1", () -> x.leftOut(0, 0, 1, false) + " " + x.leftOut(0, 0, 1, true));
        due("0 20", "as of 2", () -> x.leftOut(0, 0, 2, false) + " " + x.leftOut(0, 0, 2, true));
        change("drop a where v<15;");
        due("0 20", "one is alive", () -> x.leftOut(0, 0, 3, false) + " " + x.leftOut(0, 0, 3, true));
        change("drop a where v=15;");
        due("1 4", "none is alive", () -> x.leftOut(0, 0, 4, false) + " " + x.leftOut(0, 0, 4, true));
        due("0 20", "as of the moment ahead", () -> x.leftOut(0, 0, 3, false) + " " + x.leftOut(0, 0, 3, true));
        edge("section 6", "(All by the versions that there are, also as of a moment ahead of a SINCE.)");
        x.table(1);
        x.fill(0, 16, 0, 1, 1000, false);
        x.fill(0, 4, 16, 1, 1000, false);
        ask("from a take v0;");
        change("drop a where v<15;");
        x.sweep(0);
        due("1 0", "as of 0", () -> x.leftOut(0, 0, 0, false) + " " + x.leftOut(0, 0, 0, true));
        due("0 5", "as of 1: one is alive", () -> x.leftOut(0, 0, 1, false) + " " + x.leftOut(0, 0, 1, true));
        due(5L, "EST", () -> x.estimate(0, 1, 2));
        due("0", "the BEST plan as of 1", () -> x.best(0, 1, 2) == 0 ? out() : "");
        text("0");
        due(0L, "the COST as of 1", () -> x.cost(0, 1, 2));
        x.wipe();
        refused(STATE, "rows() as of 1", () -> x.rows(0, 1));
        edge("section 6", "if no version of it is alive: those that were swept count no more");
        x.table(1);
        x.fill(0, 3, 0, 1, 1000, false);
        ask("from a take v0;");
        change("drop a where v=0;");
        x.sweep(0);
        due("0 2", "two are alive", () -> x.leftOut(0, 0, 2, false) + " " + x.leftOut(0, 0, 2, true));
        change("drop a;");
        due("1 0", "both are dead", () -> x.leftOut(0, 0, 3, false) + " " + x.leftOut(0, 0, 3, true));
        x.sweep(0);
        due("0 0", "none is there", () -> x.leftOut(0, 0, 3, false) + " " + x.leftOut(0, 0, 3, true));
        change("put a 1;");
        due("0 1", "one is put", () -> x.leftOut(0, 0, 4, false) + " " + x.leftOut(0, 0, 4, true));
        change("drop a;");
        due("1 0", "it is dead", () -> x.leftOut(0, 0, 5, false) + " " + x.leftOut(0, 0, 5, true));
    }

    private static void shutByComparisons() {
        edge("section 6", "if it is so for no number from the least to the greatest value of the column in the zone");
        shut("v0<0", 3);
        shut("v0<1", 2);
        shut("v0<16", 2);
        shut("v0<17", 1);
        shut("v0<32", 1);
        shut("v0<33", 0);
        shut("v0<=-1", 3);
        shut("v0<=0", 2);
        shut("v0<=15", 2);
        shut("v0<=16", 1);
        shut("v0<=31", 1);
        shut("v0<=32", 0);
        shut("v0=-1", 3);
        shut("v0=0", 2);
        shut("v0=15", 2);
        shut("v0=16", 2);
        shut("v0=39", 2);
        shut("v0=40", 3);
        shut("v0<>5", 0);
        edge("section 6", "a sum without refs of the value E, on either side");
        shut("39<v0", 3);
        shut("38<v0", 2);
        shut("31<v0", 2);
        shut("30<v0", 1);
        shut("15<v0", 1);
        shut("14<v0", 0);
        shut("40<=v0", 3);
        shut("39<=v0", 2);
        shut("32<=v0", 2);
        shut("31<=v0", 1);
        shut("16<=v0", 1);
        shut("15<=v0", 0);
        shut("16=v0", 2);
        shut("5<>v0", 0);
        shut("v0<4*4", 2);
        shut("v0<(4*4)", 2);
        shut("-(-16)=v0", 2);
        shut("v0<'a'", 0);
        edge("section 6", "E is LACKING");
        shut("v0<1/0", 3);
        shut("v0<=1/0", 3);
        shut("v0=1/0", 3);
        shut("v0<>1/0", 3);
        shut("1/0<v0", 3);
        shut("1/0<=v0", 3);
        shut("1/0=v0", 3);
        shut("1/0<>v0", 3);
        edge("section 6", "<> shuts out a zone of one value alone");
        x.table(1);
        x.fill(0, 16, 5, 0, 1000, false);
        x.fill(0, 8, 5, 1, 1000, false);
        ask("from a where v0<>5 take 1;");
        ask("from a where 5<>v0 take 1;");
        ask("from a where v0<>4 take 1;");
        due("1 1 0", "<>", () -> x.leftOut(0, 0, 2, false) + " " + x.leftOut(1, 0, 2, false) + " " + x.leftOut(2, 0, 2, false));
        due("8 8 24", "READ", () -> x.leftOut(0, 0, 2, true) + " " + x.leftOut(1, 0, 2, true) + " " + x.leftOut(2, 0, 2, true));
        edge("section 6", "the least and the greatest long");
        x.table(1);
        x.fill(0, 2, 0, 1, 1000, false);
        change("set a v=65536*65536*65536*32768 where v=0;");
        change("set a v=65536*65536*65536*32768-1 where v=1;");
        x.sweep(0);
        ask("from a where v0<65536*65536*65536*32768 take 1;");
        ask("from a where v0<=65536*65536*65536*32768 take 1;");
        ask("from a where 65536*65536*65536*32768-1<v0 take 1;");
        ask("from a where 65536*65536*65536*32768-1<=v0 take 1;");
        ask("from a where v0=0 take 1;");
        due("1 0 1 0 0", "at the ends", () -> x.leftOut(0, 0, 3, false) + " " + x.leftOut(1, 0, 3, false) + " " + x.leftOut(2, 0, 3, false)
                + " " + x.leftOut(3, 0, 3, false) + " " + x.leftOut(4, 0, 3, false));
        due(0, "errors()", () -> x.errors());
    }

    private static void shutByLacks() {
        edge("section 6", "and lacks of a ref of this source (without brackets), if no value is LACKING there");
        shut("lacks v0", 3);
        shut("lacks w0", 2);
        shut("lacks(v0)", 0);
        shut("lacks -v0", 0);
        shut("lacks(v0+0)", 0);
        shut("[lacks v0]", 0);
        shut("not lacks v0", 0);
        shut("lacks v0 or lacks v0", 0);
        shut("lacks v0 and v0=1", 3);
        shut("lacks 1", 0);
    }

    private static void whatShutsNothing() {
        edge("section 6", "as they stand, not within brackets or behind not");
        shut("[v0<0]", 0);
        shut("not v0<40", 0);
        shut("not v0<0", 0);
        shut("v0<0 or v0<0", 0);
        shut("[v0<0 and v0<1]", 0);
        shut("(v0)<0", 0);
        shut("v0+0<0", 0);
        shut("-v0=1", 0);
        shut("v0<w0", 0);
        shut("v0<v0", 0);
        shut("v0<0+0*w0", 0);
        shut("1=2", 0);
        shut("some(from a where v1<0)", 0);
        shut("v0 in(from a where v1<0 take v1)", 0);
        shut("-1 in(from a take v0)", 0);
        edge("section 6", "some conjunct: several of them, and one among others");
        shut("v0<16 and 31<v0", 3);
        shut("v0<16 and v0<5", 2);
        shut("v0<16 and 15<v0 or v0=1", 0);
        shut("1=1 and not v0=5 and v0=20", 2);
        edge("section 6", "a ref of this source");
        x.table(1);
        x.table(1);
        x.fill(0, 20, 0, 1, 1000, false);
        x.fill(1, 20, 0, 1, 1000, false);
        ask("from a,b where v1<16 and v0<v1 take 1;");
        ask("from b,b where v1<16 take 1;");
        due("0 1", "of the source 1 alone", () -> x.leftOut(0, 0, 2, false) + " " + x.leftOut(0, 1, 2, false));
        due("0 1", "of the source 1 alone, both of one table", () -> x.leftOut(1, 0, 2, false) + " " + x.leftOut(1, 1, 2, false));
    }

    private static void emptyColumns() {
        edge("section 6", "or if the column has no value there; all versions of the zone are looked at, dead ones, too");
        shut("w0<1000", 1);
        shut("w0=0", 2);
        shut("1000<>w0", 1);
        shut("w0=w0", 0);
        edge("section 6", "dead ones, too");
        x.table(1);
        change("put a 1;");
        change("put a 9;");
        change("put a lack;");
        ask("from a where v0=1 take 1;");
        ask("from a where lacks v0 take 1;");
        ask("from a where v0=5 take 1;");
        change("drop a where v=1 or lacks v;");
        due("0 0 0", "1, LACKING, and 5 between 1 and 9", () -> x.leftOut(0, 0, 4, false) + " " + x.leftOut(1, 0, 4, false) + " " + x.leftOut(2, 0, 4, false));
        due("0 0", "also as of a moment at which they were not there", () -> x.leftOut(1, 0, 1, false) + " " + x.leftOut(2, 0, 1, false));
        x.sweep(0);
        due("1 1 1", "swept", () -> x.leftOut(0, 0, 4, false) + " " + x.leftOut(1, 0, 4, false) + " " + x.leftOut(2, 0, 4, false));
    }

    private static void reads() {
        edge("section 6", "READ of a source is the number of versions in its zones that are not left out");
        three();
        ask("from a where v0<32 take 1;");
        ask("from a where 31<v0 take 1;");
        ask("from a where v0<0 take 1;");
        due("32 8 0", "READ", () -> x.leftOut(0, 0, x.moment(), true) + " " + x.leftOut(1, 0, x.moment(), true) + " " + x.leftOut(2, 0, x.moment(), true));
        change("drop a where 5<v;");
        due("16 0", "dead ones of a zone that is read", () -> x.leftOut(0, 0, x.moment(), true) + " " + x.leftOut(1, 0, x.moment(), true));
    }

    private static void leftOutRefused() {
        edge("promise 25", "IndexOutOfBoundsException if there is no such question or source; IllegalArgumentException if moment is out of range");
        refused(BOUNDS, "no question at all", () -> x.leftOut(0, 0, 0, false));
        x.table(1);
        ask("from a,a take 1;");
        ask("from a where some(from a)take 1;");
        due("0 0", "both sources", () -> x.leftOut(0, 0, 0, true) + " " + x.leftOut(0, 1, 0, true));
        for (boolean isRead : new boolean[] {false, true}) {
            refused(BOUNDS, "source 2", () -> x.leftOut(0, 2, 0, isRead));
            refused(BOUNDS, "source -1, moment 5", () -> x.leftOut(0, -1, 5, isRead));
            refused(BOUNDS, "source of the greatest int", () -> x.leftOut(0, GREATEST_INT, 0, isRead));
            refused(BOUNDS, "source of the least int", () -> x.leftOut(0, LEAST_INT, 0, isRead));
            refused(BOUNDS, "the source of an inner question", () -> x.leftOut(1, 1, 0, isRead));
            refused(BOUNDS, "question 2", () -> x.leftOut(2, 0, 0, isRead));
            refused(BOUNDS, "question -1, moment -1", () -> x.leftOut(-1, 0, -1, isRead));
            refused(ARGUMENT, "moment 1", () -> x.leftOut(0, 0, 1, isRead));
            refused(ARGUMENT, "moment -1", () -> x.leftOut(0, 1, -1, isRead));
            refused(ARGUMENT, "moment of the greatest int", () -> x.leftOut(0, 0, GREATEST_INT, isRead));
            refused(ARGUMENT, "moment of the least int", () -> x.leftOut(0, 0, LEAST_INT, isRead));
        }
    }

    // ---- estimates

    /** a: 30 versions, v 0 to 6, w 0 to 3; b: 20 versions, v 0 to 3. All TALLIES are 10. */
    private static void two() {
        x = new Columnworks();
        x.table(2);
        x.table(2);
        x.fill(0, 30, 0, 1, 7, false);
        x.fill(1, 20, 0, 1, 4, false);
    }

    private static void estimated(String question, int set, long want) {
        two();
        ask(question);
        due(want, "EST of " + set + " of " + question, () -> x.estimate(0, set, 2));
    }

    private static void estimates() {
        edge("section 6", "EST: the product of their READ; for each equality of two of them divided by the greater TALLY, rounded up");
        estimated("from a take 1;", 1, 30);
        estimated("from a,b take 1;", 3, 600);
        estimated("from a,b where v0=v1 take 1;", 3, 60);
        estimated("from a,b where v0=v1 take 1;", 1, 30);
        estimated("from a,b where v0=v1 take 1;", 2, 20);
        estimated("from a,b where v0=v1 and v1=v0 take 1;", 3, 6);
        estimated("from a,b where v0=v1 and v1=v0 and w0=w1 take 1;", 3, 1);
        estimated("from a,b where v0=v1 and v1=v0 and w0=w1 and w0=v1 take 1;", 3, 1);
        estimated("from a,b where v0<=v1 take 1;", 3, 600);
        estimated("from a,b,a where v0=v2 take 1;", 5, 90);
        estimated("from a,b,a where v0=v2 take 1;", 3, 600);
        estimated("from a,b,a where v0=v2 take 1;", 6, 600);
        estimated("from a,b,a where v0=v2 take 1;", 7, 1800);
        estimated("from a,b,a take 1;", 7, 18000);
        estimated("from a,b where v0=v1 and v1=9 take 1;", 3, 0);
        edge("section 6", "the greater one of both tallies (by 1 if that is 0)");
        two();
        x.table(2);
        ask("from a,b where v0=v1 take 1;");
        x.tally(0);
        due("7 10", "one of 7", () -> x.tallied(0, 0) + " " + x.tallied(1, 0));
        due(60L, "by 10", () -> x.estimate(0, 3, 2));
        x.tally(1);
        due(86L, "by 7, rounded up", () -> x.estimate(0, 3, 2));
        change("drop a;");
        x.tally(0);
        due(150L, "by 4, as of a moment ahead", () -> x.estimate(0, 3, 2));
        change("drop b;");
        x.tally(1);
        due(600L, "by 1, as both are 0", () -> x.estimate(0, 3, 2));
        due(0L, "nothing is read", () -> x.estimate(0, 3, 4));
        edge("section 6", "in the order of the conjuncts, rounded up each time");
        x.table(2);
        x.table(2);
        // v of a: 7 unlike values, w of a: 2
        x.fill(0, 10, 0, 1, 7, false);
        x.fill(1, 5, 0, 0, 1, false);
        change("set a w=v/6;");
        x.sweep(0);
        x.tally(0);
        x.tally(1);
        ask("from a,b where v0=v1 and w0=w1 take 1;");
        due("7 2 1", "the TALLIES", () -> x.tallied(0, 0) + " " + x.tallied(0, 1) + " " + x.tallied(1, 0));
        due(4L, "50 by 7 is 8, by 2 is 4", () -> x.estimate(0, 3, 3));
    }

    private static void estimatesRefused() {
        edge("promise 26", "IllegalArgumentException if set is no set of its sources, with one at least, or moment is out of range");
        refused(BOUNDS, "no question at all", () -> x.estimate(0, 1, 0));
        x.table(1);
        ask("from a take 1;");
        ask("from a,a take 1;");
        ask("from a,a,a take 1;");
        int[] sets = {1, 3, 7};
        for (int i = 0; i < 3; i++) {
            int question = i;
            int all = sets[i];
            due(0L, "the set of all", () -> x.estimate(question, all, 0));
            refused(ARGUMENT, "set " + (all + 1), () -> x.estimate(question, all + 1, 0));
            refused(ARGUMENT, "set 0", () -> x.estimate(question, 0, 0));
            refused(ARGUMENT, "set -1", () -> x.estimate(question, -1, 0));
            refused(ARGUMENT, "set of the greatest int", () -> x.estimate(question, GREATEST_INT, 0));
            refused(ARGUMENT, "set of the least int", () -> x.estimate(question, LEAST_INT, 0));
            refused(ARGUMENT, "moment 1", () -> x.estimate(question, 1, 1));
            refused(ARGUMENT, "moment -1", () -> x.estimate(question, 1, -1));
            refused(ARGUMENT, "moment of the least int", () -> x.estimate(question, 1, LEAST_INT));
        }
        refused(BOUNDS, "question 3", () -> x.estimate(3, 1, 0));
        refused(BOUNDS, "question -1, set 0, moment -1", () -> x.estimate(-1, 0, -1));
    }

    // ---- plans

    private static void cost(Object want, String plan, int question, int room) {
        text(plan);
        due(want, "the COST of " + plan + " with a room of " + room, () -> x.cost(question, x.moment(), room));
    }

    private static void lawless(String plan, int question) {
        text(plan);
        refused(ARGUMENT, "cost() of " + plan, () -> x.cost(question, x.moment(), 8));
        if (!plan.isEmpty()) {
            refused(ARGUMENT, "open() by " + plan, () -> x.open(question, x.moment(), 8, 8));
        }
    }

    private static void texts() {
        edge("section 6", "plan = digit | ( plan op plan ), without blanks; each source of the question itself stands in it once, by its number");
        two();
        ask("from a take 1;");
        ask("from a,b where v0=v1 take 1;");
        ask("from a,b,a where v0=v1 and v1=v2 take 1;");
        ask("from a where some(from b where v1=v0)take 1;");
        for (String plan : new String[] {"", " ", "1", "00", "(0)", " 0", "0 ", "-0", "a", "(0x0)", "(0x1)", "0;"}) {
            lawless(plan, 0);
            lawless(plan, 3);
        }
        cost(0L, "0", 0, 2);
        cost(0L, "0", 3, 2);
        for (String plan : new String[] {"", "0", "1", "01", "0x1", "(0x1", "0x1)", "(0x1))", "((0x1))", "(0 x1)", "( 0x1)", "(0x1) ", " (0x1)",
            "(0x0)", "(1x1)", "(0x2)", "(2x0)", "(0x)", "(x1)", "(01)", "(0X1)", "(0H1)", "(0a1)", "(0+1)", "(0,1)", "(0x1x2)", "[0x1]", "(0x(1))",
            "((0)x1)", "(0xx1)", "((0x1)x0)", "((0x1)x2)", "()", "(", ")", "x", "(0h1);", "0h1", "(0x1(", "(0x1]",
            "(0x1x", "(0x11", "00x1)", "[0x1)"}) {
            lawless(plan, 1);
        }
        cost(600L, "(0x1)", 1, 8);
        cost(600L, "(1x0)", 1, 8);
        for (String plan : new String[] {"", "0", "(0x1)", "(0x1x2)", "((0x1)x1)", "((0x1)x0)", "((0x0)x2)", "((0x1)x2", "(0x(1x2)", "(0x(1x2)))",
            "((0x1)(x2))", "(((0x1)x2))", "((0x1)x(2))", "((0x1)x3)", "(3x(0x1))", "((0x1)x(0x2))", "((0x1)x(2x1))", "(0x(1x1))", "((0x1) x2)",
            "((0x1)x2)x", "((((((((((", "((0x1)x2)((0x1)x2)"}) {
            lawless(plan, 2);
        }
        for (String plan : new String[] {"((0x1)x2)", "(2x(0x1))", "((1x0)x2)", "(0x(2x1))", "((0x2)x1)"}) {
            due(true, "the COST of " + plan, () -> text(plan) == 9 && x.cost(2, 2, 8) > 0);
        }
    }

    private static void byEquality() {
        edge("section 6", "A join by h or m needs an equality of a source of its left part and one of its right part");
        two();
        ask("from a,b where v0=v1 take 1;");
        ask("from a,b where v0<=v1 and (w0)=w1 and [v0=w1]and not v0<>w1 take 1;");
        ask("from a,b,a where v0=v1 take 1;");
        ask("from a,b,a where w2=w0 and v0=v1 take 1;");
        for (String op : new String[] {"h", "m"}) {
            due(true, "either way round", () -> text("(0" + op + "1)") == 5 && x.cost(0, 2, 8) > 0);
            due(true, "either way round", () -> text("(1" + op + "0)") == 5 && x.cost(0, 2, 8) > 0);
            lawless("(0" + op + "1)", 1);
            lawless("((0" + op + "1)" + op + "2)", 2);
            lawless("((0" + op + "2)x1)", 2);
            lawless("(2" + op + "(0" + op + "1))", 2);
            lawless("((2" + op + "1)x0)", 2);
            due(true, "a source of the left part", () -> text("((0x2)" + op + "1)") == 9 && x.cost(2, 2, 8) > 0);
            due(true, "a source of the right part", () -> text("(1" + op + "(2x0))") == 9 && x.cost(2, 2, 8) > 0);
            due(true, "both joins", () -> text("((0" + op + "1)" + op + "2)") == 9 && x.cost(3, 2, 8) > 0);
            lawless("(0" + op + "(1" + op + "2))", 3);
        }
    }

    private static void withoutBrackets() {
        edge("section 6", "EQUALITIES are conjuncts that are a ref = a ref of another source (each alone on its side, without brackets)");
        for (String equality : new String[] {"[v0=v1]", "[[v0=v1]]", "(v0)=v1", "v0=(v1)", "[(v0)=(v1)]", "not not v0=v1"}) {
            two();
            ask("from a,b where " + equality + " take 1;");
            ask("from a,b where " + equality + "and w0=w1 take 1;");
            ask("from a,b where v0=v1 take 1;");
            x.index(1, 0);
            due("0 1 1", "equalities of " + equality, () -> x.questionAt(0, 5) + " " + x.questionAt(1, 5) + " " + x.questionAt(2, 5));
            due("600 60 60", "EST of " + equality, () -> x.estimate(0, 3, 2) + " " + x.estimate(1, 3, 2) + " " + x.estimate(2, 3, 2));
            for (String op : new String[] {"h", "m", "i"}) {
                lawless("(0" + op + "1)", 0);
                due(true, op + " by the equality", () -> text("(0" + op + "1)") == 5 && x.cost(2, 2, 8) > 0);
            }
            lawless("(0i1)", 1);
            change("drop b where 1<v;");
            due("50 50", "the rows are those of the equality", () -> x.rows(0, 3) + " " + x.rows(2, 3));
        }
    }

    private static void byIndex() {
        edge("section 6", "its right part is one source alone, and of the first such equality (not of another one) the column of this source has an INDEX");
        two();
        ask("from a,b where v0=v1 and w0=w1 take 1;");
        ask("from a,b where w1=w0 and v1=v0 take 1;");
        ask("from a,b take 1;");
        ask("from a,b,b where v0=v1 and w1=v2 take 1;");
        lawless("(0i1)", 0);
        lawless("(1i0)", 0);
        x.index(1, 1);
        lawless("(0i1)", 0);
        cost(30L + 30 * 2, "(0i1)", 1, 8);
        x.index(1, 0);
        cost(30L + 30 * 2, "(0i1)", 0, 8);
        lawless("(1i0)", 0);
        lawless("(1i0)", 1);
        lawless("(0i1)", 2);
        cost(600L + 60 * 3, "((0x1)i2)", 3, 8);
        lawless("(0i(1x2))", 3);
        lawless("((0x1)i(2))", 3);
        lawless("(0i(1i2))", 3);
        due(true, "the left part can be a join by i, too", () -> text("((0i1)i2)") == 9 && x.cost(3, 2, 8) > 0);
        due(true, "an index of the right source's table is one of each source of it", () -> text("((0x2)i1)") == 9 && x.cost(3, 2, 8) > 0);
        lawless("((0i2)i1)", 3);
        lawless("((2x1)i0)", 3);
        edge("section 6", "of the first such equality: one between the left part and the right source");
        x.table(2);
        x.table(2);
        x.fill(0, 4, 0, 1, 4, false);
        x.fill(1, 4, 0, 1, 4, false);
        ask("from a,a,b where v0=v1 and w0=w2 and v1=v2 take 1;");
        x.index(1, 0);
        lawless("((0x1)i2)", 0);
        due(true, "the left part is the source 1 alone", () -> text("(0x(1i2))") == 9 && x.cost(0, 2, 8) > 0);
        x.index(1, 1);
        due(true, "w0=w2 comes first", () -> text("((0x1)i2)") == 9 && x.cost(0, 2, 8) > 0);
    }

    private static void passes() {
        edge("section 6", "P(n) is 0 if n is at most r, otherwise the least p for which r to the power of p + 1 is at least n");
        // of (0m1) with an empty b the cost is (1 + P(e)) * e
        int[][] known = {{1, 2, 0}, {2, 2, 0}, {3, 2, 1}, {4, 2, 1}, {5, 2, 2}, {8, 2, 2}, {9, 2, 3}, {16, 2, 3}, {17, 2, 4}, {32, 2, 4}, {33, 2, 5},
            {64, 2, 5}, {65, 2, 6}, {128, 2, 6}, {3, 3, 0}, {4, 3, 1}, {9, 3, 1}, {10, 3, 2}, {27, 3, 2}, {28, 3, 3}, {81, 3, 3}, {82, 3, 4},
            {64, 64, 0}, {65, 64, 1}, {128, 64, 1}, {8, 8, 0}, {9, 8, 1}, {64, 8, 1}, {65, 8, 2}};
        for (int[] k : known) {
            x = new Columnworks();
            x.table(1);
            x.table(1);
            x.fill(0, Math.min(64, k[0]), 0, 1, 1000, false);
            if (k[0] > 64) {
                x.fill(0, k[0] - 64, 64, 1, 1000, false);
            }
            ask("from a,b where v0=v1 take 1;");
            cost((1L + k[2]) * k[0], "(0m1)", 0, k[1]);
            cost((1L + k[2]) * k[0], "(1m0)", 0, k[1]);
        }
    }

    private static void costs() {
        edge("section 6", "of x e * f; of h e + f, twice as much if f is above r; of m both; of i e * (1 + g)");
        two();
        ask("from a,b where v0=v1 take 1;");
        x.index(0, 0);
        x.index(1, 0);
        cost(600L, "(0x1)", 0, 2);
        cost(100L, "(0h1)", 0, 19);
        cost(50L, "(0h1)", 0, 20);
        cost(100L, "(1h0)", 0, 29);
        cost(50L, "(1h0)", 0, 30);
        cost(2 * 30 + 2 * 20L, "(0m1)", 0, 19);
        cost(2 * 30 + 20L, "(0m1)", 0, 20);
        cost(30 + 20L, "(1m0)", 0, 30);
        cost(30 * 3L, "(0i1)", 0, 2);
        cost(20 * 4L, "(1i0)", 0, 64);
        edge("section 6", "the number of versions of the right source's table by the TALLY of the column (by 1 if that is 0), rounded up");
        two();
        ask("from a,b where v0=v1 take 1;");
        x.index(1, 0);
        x.tally(1);
        cost(30 * 6L, "(0i1)", 0, 8);
        change("put b 9,9;");
        cost(30 * 7L, "(0i1)", 0, 8);
        x.tally(1);
        due(5, "the TALLY", () -> x.tallied(1, 0));
        cost(30 * 6L, "(0i1)", 0, 8);
        change("drop b where v<9;");
        cost(30 * 6L, "(0i1)", 0, 8);
        change("drop b;");
        x.tally(1);
        cost(30 * 22L, "(0i1)", 0, 8);
        x.sweep(1);
        cost(30 * 1L, "(0i1)", 0, 8);
        edge("section 6", "The COST of a plan is the sum of those of its joins; e the EST of the left part, and f that of the right one");
        two();
        ask("from a,b,a where v0=v1 and v1=v2 take 1;");
        cost(600 + 60 * 30L, "((0x1)x2)", 0, 8);
        cost(600 + 30 * 60L, "(0x(1x2))", 0, 8);
        cost(900 + 900 * 20L, "((0x2)x1)", 0, 8);
        cost(100 + 2 * 90L, "((0h1)h2)", 0, 8);
        cost(50 + 90L, "((0h1)h2)", 0, 30);
        cost(50 + 2 * 90L, "(2h(0h1))", 0, 59);
        cost(50 + 90L, "(2h(0h1))", 0, 60);
        edge("section 6", "The COST of a plan without a join");
        x.table(1);
        ask("from a take 1;");
        cost(0L, "0", 0, 2);
        x.fill(0, 64, 0, 1, 100, false);
        cost(0L, "0", 0, 2);
        edge("section 6", "The COST when nothing is read");
        x.table(1);
        ask("from a,a,a where v0=v1 and v1=v2 take 1;");
        cost(0L, "((0x1)h2)", 0, 2);
        cost(0L, "((0m1)m2)", 0, 64);
    }

    private static void costsRefused() {
        edge("promise 27", "IllegalArgumentException if moment or room is out of range, or the text is no LAWFUL plan");
        refused(BOUNDS, "no question at all", () -> x.cost(0, 0, 2));
        x.table(1);
        ask("from a,a where v0=v1 take 1;");
        refused(ARGUMENT, "an empty text", () -> x.cost(0, 0, 2));
        type("(0h1)");
        due(0L, "a room of 2", () -> x.cost(0, 0, 2));
        due(0L, "a room of 64", () -> x.cost(0, 0, 64));
        due(5, "The text stays", () -> x.type(0));
        for (int room : new int[] {1, 0, -1, 65, LEAST_INT, GREATEST_INT}) {
            refused(ARGUMENT, "a room of " + room, () -> x.cost(0, 0, room));
        }
        for (int moment : new int[] {1, -1, LEAST_INT, GREATEST_INT}) {
            refused(ARGUMENT, "moment " + moment, () -> x.cost(0, moment, 2));
        }
        refused(BOUNDS, "question 1", () -> x.cost(1, 0, 2));
        refused(BOUNDS, "question -1, moment -1, room 1", () -> x.cost(-1, -1, 1));
        text("(0i1)");
        refused(ARGUMENT, "no LAWFUL plan", () -> x.cost(0, 0, 2));
        refused(BOUNDS, "question 1, and no LAWFUL plan", () -> x.cost(1, 0, 2));
    }

    private static void bestOf(String want, int question, int room) {
        due(want, "the BEST plan with a room of " + room, () -> x.best(question, x.moment(), room) + " " + out());
    }

    private static void best() {
        edge("section 6", "The BEST plan is the lawful one with the least cost");
        x.table(1);
        ask("from a take 1;");
        bestOf("0 0", 0, 2);
        two();
        ask("from a,b where v0=v1 take 1;");
        ask("from a,b take 1;");
        bestOf("50 (0h1)", 0, 20);
        // with 19 h costs 100, m 2 * 30 + 2 * 20
        bestOf("100 (0h1)", 0, 19);
        bestOf("600 (0x1)", 1, 64);
        x.index(1, 0);
        bestOf("90 (0i1)", 0, 19);
        x.tally(1);
        bestOf("100 (0h1)", 0, 19);
        // with 29 (1m0) costs 2 * 30 + 20, too, but (0h1) 50
        bestOf("50 (0h1)", 0, 29);
        edge("section 6", "of several that whose text is less: by the first sign in which they are unlike, the one with the lower code");
        x.table(1);
        ask("from a,a where v0=v1 take 1;");
        ask("from a,a take 1;");
        ask("from a,a,a where v0=v1 and v1=v2 take 1;");
        ask("from a,a,a where v0=v2 take 1;");
        ask("from a,a,a take 1;");
        bestOf("0 (0h1)", 0, 2);
        bestOf("0 (0x1)", 1, 2);
        bestOf("0 ((0h1)h2)", 2, 2);
        bestOf("0 ((0h2)x1)", 3, 2);
        bestOf("0 ((0x1)x2)", 4, 2);
        x.index(0, 0);
        bestOf("0 (0h1)", 0, 2);
        bestOf("0 ((0h1)h2)", 2, 2);
        edge("section 6", "h ahead of i, i ahead of m, m ahead of x, when they cost as much");
        x.table(1);
        x.table(1);
        x.index(1, 0);
        change("put a 1;");
        change("put b 1;");
        ask("from a,b where v0=v1 take 1;");
        cost(1L, "(0x1)", 0, 2);
        cost(2L, "(0h1)", 0, 2);
        cost(2L, "(0m1)", 0, 2);
        cost(2L, "(0i1)", 0, 2);
        bestOf("1 (0x1)", 0, 2);
        change("put b 1;");
        cost(2L, "(0x1)", 0, 2);
        cost(3L, "(0h1)", 0, 2);
        cost(2L, "(0i1)", 0, 2);
        bestOf("2 (0i1)", 0, 2);
        change("put a 1;");
        // 4, 4, 4 and 2 * (1 + 1)
        bestOf("4 (0h1)", 0, 2);
        edge("promise 28", "Writes the BEST plan as the OUTPUT. Returns its cost");
        two();
        ask("from a,b where v0=v1 take 1;");
        type("abc");
        due(50L, "the cost", () -> x.best(0, 2, 64));
        due("(0h1)", "the OUTPUT", () -> out());
        due(3, "the text stays", () -> x.type(0));
    }

    /** All texts of plans of so many sources, in their order; most of them are not LAWFUL. */
    private static List<String> allPlans(int sources) {
        List<String> plans = new ArrayList<>();
        String[] ops = {"h", "i", "m", "x"};
        for (int first = 0; first < sources; first++) {
            if (sources == 1) {
                plans.add("0");
            }
            for (int second = 0; second < sources && sources > 1; second++) {
                for (String op : ops) {
                    String two = "(" + first + op + second + ")";
                    if (sources == 2) {
                        plans.add(two);
                    }
                    for (int third = 0; third < sources && sources > 2; third++) {
                        for (String next : ops) {
                            plans.add("(" + two + next + third + ")");
                            plans.add("(" + third + next + two + ")");
                        }
                    }
                }
            }
        }
        plans.sort(null);
        return plans;
    }

    /** a, b and c of some sizes, the TALLIES told, the INDEXES made, and one question. */
    private static void sources(int[] sizes, int indexes, String question) {
        x = new Columnworks();
        for (int table = 0; table < 3; table++) {
            x.table(2);
            if (sizes[table] > 0) {
                x.fill(table, sizes[table], table, 1, 3 + 2 * table, false);
            }
            x.tally(table);
            if ((indexes >> table & 1) == 1) {
                x.index(table, 0);
            }
        }
        ask(question);
    }

    private static void bestAmong(int[] sizes, int indexes, String question, int room) {
        String least = "";
        long cost = 0;
        int calls = 512;
        for (String plan : allPlans(question.substring(0, question.indexOf(' ', 5)).split(",").length)) {
            // an object is used for so many calls alone
            if (calls > 500) {
                sources(sizes, indexes, question);
                calls = 20;
            }
            calls += 4;
            String found = said(() -> text(plan) < 0 ? 0 : x.cost(0, x.moment(), room));
            if (!found.equals(ARGUMENT) && (least.isEmpty() || Long.parseLong(found) < cost)) {
                least = plan;
                cost = Long.parseLong(found);
            }
        }
        sources(sizes, indexes, question);
        String want = cost + " " + least;
        due(want, "the BEST plan of " + question + " with a room of " + room, () -> x.best(0, x.moment(), room) + " " + out());
        due(0, "errors()", () -> x.errors());
    }

    private static void bestAmongAll() {
        edge("section 6", "The BEST plan is the lawful one with the least cost, of several that whose text is less: beside all plans");
        int[][] sizes = {{0, 0, 0}, {1, 1, 1}, {2, 9, 40}, {40, 2, 9}, {9, 40, 2}, {64, 1, 3}, {5, 5, 64}, {30, 30, 0}};
        String[] tests = {"", " where v0=v1", " where v1=v2", " where v0=v2 and v1=v0", " where v0=v1 and v1=v2 and v2=v0", " where v2=v1 and w0=v1"};
        for (int i = 0; i < sizes.length; i++) {
            for (int j = 0; j < tests.length; j++) {
                int room = new int[] {2, 4, 8, 64}[(i + j) % 4];
                bestAmong(sizes[i], (i * 6 + j) % 8, "from a,b,c" + tests[j] + " take 1;", room);
            }
        }
        for (int indexes = 0; indexes < 8; indexes++) {
            bestAmong(new int[] {40, 3, 20}, indexes, "from a,b,c where v0=v1 and v1=v2 take 1;", 3);
            bestAmong(new int[] {3, 20, 40}, indexes, "from b,a where v0=v1 take 1;", 3);
            bestAmong(new int[] {1, 64, 1}, indexes, "from c,b,a where v1=v2 and v0=v1 take 1;", 16);
            bestAmong(new int[] {2, 60, 2}, indexes, "from b,b,a where w0=v1 and v0=v2 take 1;", 5);
        }
        bestAmong(new int[] {3, 20, 40}, 0, "from c take 1;", 3);
    }

    private static void bestRefused() {
        edge("promise 28", "IllegalArgumentException if moment or room is out of range");
        refused(BOUNDS, "no question at all", () -> x.best(0, 0, 2));
        x.table(1);
        ask("from a take v0;");
        x.program(0, 1, 0);
        for (int room : new int[] {1, 0, -1, 65, LEAST_INT, GREATEST_INT}) {
            refused(ARGUMENT, "a room of " + room, () -> x.best(0, 0, room));
        }
        for (int moment : new int[] {1, -1, LEAST_INT, GREATEST_INT}) {
            refused(ARGUMENT, "moment " + moment, () -> x.best(0, moment, 2));
        }
        refused(BOUNDS, "question 1", () -> x.best(1, 0, 2));
        refused(BOUNDS, "question -1, moment -1, room 1", () -> x.best(-1, -1, 1));
        due("v0", "the OUTPUT stays", () -> out());
        due("0 0", "a room of 2", () -> x.best(0, 0, 2) + " " + out());
        due("0 0", "a room of 64", () -> x.best(0, 0, 64) + " " + out());
    }
}
