/** Boundary cases of what questions mean, and of programs: the sections 4 and 5 and the promises 21 to 24. */
public final class EdgeQuestions extends Edges {
    public static void main(String[] args) {
        sums();
        comparisons();
        someAndIn();
        rowsInOrder();
        groups();
        aggregates();
        ranks();
        runsOver();
        threeRefs();
        manyRows();
        orders();
        firsts();
        asking();
        whatIsTold();
        conjuncts();
        constants();
        signs();
        innerPrograms();
        overPrograms();
        programsRefused();
        tooManyRows();
        sweptSince();
        rowsRefused();
        finish();
    }

    /** a: v 1, 2, 1, LACKING and w 10, 20, 30, 40; b: v 1, 2 and w 7, LACKING. */
    private static void start() {
        x.table(2);
        x.table(2);
        x.table(1);
        change("put a 1,10;");
        change("put a 2,20;");
        change("put a 1,30;");
        change("put a lack,40;");
        change("put b 1,7;");
        change("put b 2,lack;");
    }

    private static void answered(String question, String want) {
        x = new Columnworks();
        start();
        due(want, question, () -> solved(question));
    }

    private static void sums() {
        edge("section 4", "A sum is LACKING if one of its parts is, or by a division by 0; a quotient is rounded toward 0");
        answered("from a where w0=40 take v0+1,1-v0,v0*0,0/v0,-v0;", "? ? ? ? ?");
        answered("from a where w0=10 take v0/0,0/0,v0/(v0-1),0*(1/0),-(1/0);", "? ? ? ? ?");
        answered("from a where w0=10 take 7/2,-7/2,7/-2,-7/-2,-1/2;", "3 -3 -3 3 0");
        answered("from a where w0=10 take 0/7,6/3,w0/3,-w0/3,w0/-4;", "0 2 3 -3 -2");
        answered("from a take 8/2/2,8/(2/2),8-2-2,8-(2-2),2*3/4 first 1;", "2 8 4 8 1");
        answered("from a take 65536*65536*65536*32768,65536*65536*65536*32768-1,-(65536*65536*65536*32768) first 1;",
                Long.MIN_VALUE + " " + Long.MAX_VALUE + " " + Long.MIN_VALUE);
        answered("from a take 65536*65536*65536*32768/-1 first 1;", "" + Long.MIN_VALUE);
    }

    private static void comparisons() {
        edge("section 4", "A comparison is not so if one of its sides is LACKING");
        for (String sign : new String[] {"=", "<", "<=", "<>"}) {
            answered("from a where w0=40 and v0" + sign + "1 take 1;", "");
            answered("from a where w0=40 and 1" + sign + "v0 take 1;", "");
            answered("from a where w0=40 and v0" + sign + "v0 take 1;", "");
            answered("from a where w0=40 and v0" + sign + "1/0 take 1;", "");
            answered("from a where 1/0" + sign + "1/0 take 1;", "");
            answered("from a where w0=40 and not v0" + sign + "1 take 1;", "1");
        }
        answered("from a where v0<2 take w0;", "10|30");
        answered("from a where v0<=2 take w0;", "10|20|30");
        answered("from a where v0<1 take w0;", "");
        answered("from a where v0<=1 take w0;", "10|30");
        answered("from a where v0<>1 take w0;", "20");
        answered("from a where 65536*65536*65536*32768<v0 take w0;", "10|20|30");
        edge("section 4", "lacks is so if its unit is");
        answered("from a where lacks v0 take w0;", "40");
        answered("from a where lacks w0 take w0;", "");
        answered("from a where lacks(v0+w0)take w0;", "40");
        answered("from a where lacks -v0 take w0;", "40");
        answered("from a where lacks(w0/(w0-20))take w0;", "20");
        answered("from a where not lacks v0 take w0;", "10|20|30");
        answered("from a where lacks 1 take w0;", "");
        edge("section 4", "not, and, or as they are: and joins ahead of or");
        answered("from a where v0=1 or v0=2 and w0=10 take w0;", "10|30");
        answered("from a where [v0=1 or v0=2]and w0=10 take w0;", "10");
        answered("from a where w0=10 and v0=2 or w0=40 take w0;", "40");
        answered("from a where not v0=1 or w0=10 take w0;", "10|20|40");
        answered("from a where not[v0=1 or w0=20]take w0;", "40");
        answered("from a where not not v0=1 and w0=30 take w0;", "30");
        answered("from a where 1=1 take w0;", "10|20|30|40");
        answered("from a where 1=2 take w0;", "");
        answered("from a take w0;", "10|20|30|40");
    }

    private static void someAndIn() {
        edge("section 4", "some is so for a row if its test is so (all without one) for some combination of versions that are alive");
        answered("from a where some(from b)take w0;", "10|20|30|40");
        answered("from a where some(from c)take w0;", "");
        answered("from a where not some(from c)take w0;", "10|20|30|40");
        answered("from a where some(from b,c)take w0;", "");
        answered("from a where some(from b where v1=v0)take w0;", "10|20|30");
        answered("from a where some(from b where v1=v0 and lacks w1)take w0;", "20");
        answered("from a where some(from b where v1=3)take w0;", "");
        answered("from a where some(from b,b where v1+v2=v0*4)take w0;", "10|30");
        answered("from a where some(from b,b where v1<v2 and v1=v0)take w0;", "10|30");
        edge("section 4", "of versions that are alive, as of the question's moment");
        x.table(1);
        x.table(1);
        change("put a 1;");
        change("put b 1;");
        change("drop b;");
        ask("from a where some(from b)take 1;");
        ask("from a where v0 in(from b take v1)take 1;");
        due("0 1 0", "some, as of 1, 2 and 3", () -> x.rows(0, 1) + " " + x.rows(0, 2) + " " + x.rows(0, 3));
        due("0 1 0", "in, as of 1, 2 and 3", () -> x.rows(1, 1) + " " + x.rows(1, 2) + " " + x.rows(1, 3));
        edge("section 4", "in if for some such combination the sum behind take has the value of the sum ahead of in (neither LACKING)");
        answered("from a where v0 in(from b take v1)take w0;", "10|20|30");
        answered("from a where v0 in(from b where lacks w1 take v1)take w0;", "20");
        answered("from a where v0 in(from b take w1)take w0;", "");
        answered("from a where lacks v0 and v0 in(from b take w1)take w0;", "");
        answered("from a where lacks v0 and v0 in(from b take 1/0)take w0;", "");
        answered("from a where 1/0 in(from b take 1/0)take w0;", "");
        answered("from a where not v0 in(from b take v1)take w0;", "40");
        answered("from a where 7 in(from b take w1)take w0;", "10|20|30|40");
        answered("from a where 7 in(from b where v1=v0 take w1)take w0;", "10|30");
        answered("from a where w0 in(from b,b take v1*v2*5)take w0;", "10|20");
        answered("from a where w0 in(from b take v0*10)take w0;", "10|20");
        answered("from a where v0 in(from c take 1)take w0;", "");
        edge("section 4", "(neither LACKING): LACKING is no 0");
        answered("from a where lacks v0 and v0 in(from b take 0)take w0;", "");
        answered("from a where 1/0 in(from b take 0)take w0;", "");
        answered("from a where 0 in(from b where lacks w1 take w1)take w0;", "");
        answered("from a where lacks v0 and 0 in(from b take v0)take w0;", "");
        answered("from a where 0 in(from b take w1-7)take w0;", "10|20|30|40");
    }

    private static void rowsInOrder() {
        edge("section 4", "ordered by the place of the one of the source 0, then of the source 1, and so on");
        answered("from a,b where not lacks v0 take w0,v1;", "10 1|10 2|20 1|20 2|30 1|30 2");
        answered("from b,a where w1<30 take v0,w1;", "1 10|1 20|2 10|2 20");
        answered("from b,b,b where v0=1 take v1,v2;", "1 1|1 2|2 1|2 2");
        answered("from a,c take 1;", "");
        answered("from c,a,b take 1;", "");
        answered("from c take v0;", "");
        x = new Columnworks();
        start();
        change("set a v=9 where w=10;");
        change("set a w=w where w=40;");
        due("2 20|1 30|9 10|? 40", "by the places of the versions that are alive", () -> solved("from a take v0,w0;"));
    }

    private static void groups() {
        edge("section 4", "rows with like values of the refs behind by are one group (LACKING is like LACKING), ordered by their first rows");
        answered("from a by v0 take v0,count,total(w0);", "1 2 40|2 1 20|? 1 40");
        answered("from a,b by v0 take v0,count;", "1 4|2 2|? 2");
        answered("from a,b by w1 take w1,count;", "7 4|? 4");
        answered("from a,b by w1,v0 take w1,v0,count;", "7 1 2|? 1 2|7 2 1|? 2 1|7 ? 1|? ? 1");
        answered("from a by v0,v0,v0 take v0,count;", "1 2|2 1|? 1");
        answered("from a where w0<>10 by v0 take v0,least(w0);", "2 20|1 30|? 40");
        answered("from a by w0 take count;", "1|1|1|1");
        x = new Columnworks();
        x.table(2);
        change("put a 0,1;");
        change("put a lack,2;");
        change("put a 0,3;");
        change("put a lack,4;");
        due("0 4|? 6", "LACKING is not like 0", () -> solved("from a by v0 take v0,total(w0);"));
        edge("section 4", "without by all rows are one group, also if there are none");
        answered("from a take count,total(w0);", "4 100");
        answered("from a where 1=2 take count,total(w0),least(w0),most(w0),5;", "0 ? ? ? 5");
        answered("from c take count;", "0");
        answered("from c take 7 order count;", "7");
        answered("from a take 7 order count;", "7");
        answered("from c by v0 take count;", "");
        answered("from a where 1=2 by v0 take v0,count;", "");
        answered("from a by v0 take 7;", "7|7|7");
        edge("section 4", "Groups for which the test behind with is so stay");
        answered("from a by v0 with count=1 take v0;", "2|?");
        answered("from a by v0 with v0=1 or lacks v0 take v0;", "1|?");
        answered("from a by v0 with 1=2 take v0;", "");
        answered("from a by v0 with total(v0)=2 take v0,total(v0);", "1 2|2 2");
        answered("from a by v0 with not total(v0)=2 take v0;", "?");
        answered("from a by v0 with lacks total(v0)take least(w0);", "40");
        answered("from c by v0 with count=0 take v0;", "");
    }

    private static void aggregates() {
        edge("section 4", "count is the number of rows of the group; over its rows for which s is not LACKING; LACKING without such a row");
        answered("from a take count,total(v0),least(v0),most(v0);", "4 4 1 2");
        answered("from a where lacks v0 take count,total(v0),least(v0),most(v0);", "1 ? ? ?");
        answered("from a take total(1/0),total(1),count*count,-total(w0),total(w0)/count;", "? 4 16 -100 25");
        answered("from a take total(v0)+1,total(-w0),least(-w0),most(-w0),most(v0*w0);", "5 -100 -40 -10 40");
        answered("from a take 1+total(v0/0);", "?");
        answered("from a by v0 take v0*count,v0+total(w0);", "2 41|2 22|? ?");
        answered("from a,b take total(v0*v1),count;", "12 8");
        answered("from a where w0=10 take total(65536*65536*65536*32768-1+v0);", "" + Long.MIN_VALUE);
        answered("from a where w0<25 take total(65536*65536*65536*32768-1);", "-2");
        answered("from a take least(65536*65536*65536*32768),most(65536*65536*65536*32768-1);", Long.MIN_VALUE + " " + Long.MAX_VALUE);
    }

    private static void ranks() {
        edge("section 4", "rank: 1 and the number of rows that stay, with like values of all refs of p, whose value of k is less");
        answered("from a take rank over(along w0);", "1|2|3|4");
        answered("from a take w0,rank over(along v0);", "10 2|20 4|30 2|40 1");
        answered("from a take rank over(v0 along w0);", "1|1|2|1");
        answered("from a take rank over(v0,w0 along w0);", "1|1|1|1");
        answered("from a where v0=1 take rank over(along w0);", "1|2");
        answered("from a where 1=2 take rank over(along w0);", "");
        answered("from a,b take rank over(along w1);", "5|1|5|1|5|1|5|1");
        answered("from a,b take rank over(w1 along v0);", "2|2|4|4|2|2|1|1");
        answered("from a take rank over(along w0)order down w0 first 2;", "4|3");
        x = new Columnworks();
        x.table(1);
        change("put a 0;");
        change("put a lack;");
        change("put a lack;");
        change("set a v=65536*65536*65536*32768 where v=0;");
        due("1 2|1 2|3 1", "LACKING is less than the least long, and like itself",
                () -> solved("from a take rank over(along v0),run(1)over(v0 along v0);"));
    }

    private static void runsOver() {
        edge("section 4", "run: the sum of s over the rows that stay, with like values of all refs of p, whose value of k is not greater");
        answered("from a take run(w0)over(along w0);", "10|30|60|100");
        answered("from a take run(w0)over(along v0);", "80|100|80|40");
        answered("from a take run(1)over(v0 along w0);", "1|1|2|1");
        answered("from a take run(w0)over(v0,w0 along w0);", "10|20|30|40");
        answered("from a where v0=1 take run(w0)over(along w0);", "10|40");
        edge("section 4", "and for which s is not LACKING; LACKING without such a row");
        answered("from a take run(v0)over(along w0);", "1|3|4|4");
        answered("from a take run(v0)over(along v0);", "2|4|2|?");
        answered("from a take run(v0)over(v0 along w0);", "1|2|2|?");
        answered("from a take run(1/0)over(along w0);", "?|?|?|?");
        answered("from a take run(v0/(w0-10))over(along w0);", "?|0|0|0");
        answered("from a where 1=2 take run(1)over(along w0);", "");
        answered("from a take run(w0)over(along w0)order down w0 first 1;", "100");
        answered("from a where w0<25 take run(65536*65536*65536*32768-1)over(along w0);", Long.MAX_VALUE + "|-2");
    }

    /** v, w and x tell a version apart, each alone for some; y is its place. */
    private static void threeRefs() {
        edge("section 4", "with like values of all refs of p: three of them, and the one behind along");
        String[] versions = {"1,1,1,9", "1,1,2,8", "1,2,1,7", "2,1,1,6", "1,1,1,5", "2,1,1,lack", "1,1,1,9"};
        x.table(4);
        for (String version : versions) {
            change("put a " + version + ";");
        }
        due("2|1|1|2|1|1|2", "rank of three", () -> solved("from a take rank over(v0,w0,x0 along y0);"));
        due("3|2|1|2|1|1|3", "rank of two", () -> solved("from a take rank over(v0,w0 along y0);"));
        due("23|8|7|6|5|?|23", "run of three", () -> solved("from a take run(y0)over(v0,w0,x0 along y0);"));
        due("23|8|5", "of those with like values", () -> solved("from a where v0=1 and w0=1 take run(y0)over(v0,w0,x0 along y0)first 3;"));
        due("2 6|1 5|1 4|2 3|1 2|1 1|2 6", "each over its own refs", () -> solved("from a take rank over(v0,w0,x0 along y0),rank over(along y0);"));
        due("23 7 6|8 5 5|7 4 4|6 3 3|5 2 2|? 1 1|23 7 6", "each over its own refs",
                () -> solved("from a take run(y0)over(v0,w0,x0 along y0),run(1)over(along y0),rank over(along y0);"));
        due("1 4 1|1 4 1|1 4 1|1 4 1", "one with fewer refs behind one with more",
                () -> solved("from a where y0=9 or v0=2 take rank over(v0,w0,x0 along x0),run(1)over(along w0),rank over(along w0);"));
        edge("section 4", "run: LACKING without such a row, also behind others with one");
        x.table(2);
        change("put a 5,1;");
        change("put a lack,2;");
        change("put a lack,3;");
        change("put a 7,3;");
        due("5|?|7|7", "of each value of w", () -> solved("from a take run(v0)over(w0 along w0);"));
    }

    private static void manyRows() {
        edge("section 4", "500 rows of five items, ordered by three keys");
        x.table(1);
        x.table(1);
        x.fill(0, 25, 0, 1, 100, false);
        x.fill(1, 20, 0, 1, 100, false);
        ask("from a,b take v0,v1,v0*v1,rank over(v1,v1,v1 along v0),run(1)over(along v0)order down v1,0,down v0;");
        ask("from a,b by v0,v1 take v0,v1,count,total(v0),total(v1)order down v1,0,down v0;");
        x.open(0, 2, 64, 64);
        x.open(1, 2, 64, 2);
        runOn(0);
        runOn(1);
        due("500 500", "the rows", () -> x.runAt(0, 3) + " " + x.runAt(1, 3));
        due("24 19 456 25 500", "the first one", () -> x.answer(0, 0, 0) + " " + x.answer(0, 0, 1) + " " + x.answer(0, 0, 2) + " "
                + x.answer(0, 0, 3) + " " + x.answer(0, 0, 4));
        due("0 0 0 1 20", "the last one", () -> x.answer(0, 499, 0) + " " + x.answer(0, 499, 1) + " " + x.answer(0, 499, 2) + " "
                + x.answer(0, 499, 3) + " " + x.answer(0, 499, 4));
        due("23 0 1 23 0", "the last one but 23", () -> x.answer(1, 476, 0) + " " + x.answer(1, 476, 1) + " " + x.answer(1, 476, 2) + " "
                + x.answer(1, 476, 3) + " " + x.answer(1, 476, 4));
        refused(NONE_SUCH, "one more", () -> x.answer(0, 500, 0));
        due(0, "errors()", () -> x.errors());
    }

    private static void orders() {
        edge("section 4", "by the first key, the least value first (with down the greatest one first), of like ones by the second one, and so on");
        answered("from a take w0 order w0;", "10|20|30|40");
        answered("from a take w0 order down w0;", "40|30|20|10");
        answered("from a take w0 order v0,w0;", "40|10|30|20");
        answered("from a take w0 order v0,down w0;", "40|30|10|20");
        answered("from a take w0 order down v0,down w0;", "20|30|10|40");
        answered("from a take w0 order 1,v0*0,down w0;", "40|30|20|10");
        answered("from a take w0 order w0/30,v0,down w0;", "10|20|40|30");
        edge("section 4", "LACKING is less than all numbers, and like itself");
        answered("from a take w0 order v0;", "40|10|30|20");
        answered("from a take w0 order down v0;", "20|10|30|40");
        answered("from a take w0 order v0/0;", "10|20|30|40");
        answered("from a take w0 order down v0/0;", "10|20|30|40");
        x = new Columnworks();
        x.table(2);
        change("put a 1,0;");
        change("put a lack,1;");
        change("set a v=65536*65536*65536*32768 where v=1;");
        change("set a v=v where w=1;");
        due("1|0", "LACKING ahead of the least long", () -> solved("from a take w0 order v0;"));
        due("0|1", "behind it with down", () -> solved("from a take w0 order down v0;"));
        edge("section 4", "of like ones by all keys they stay in the order in which they are");
        answered("from a take w0 order 1;", "10|20|30|40");
        answered("from a take w0 order down 1;", "10|20|30|40");
        answered("from a take w0;", "10|20|30|40");
        answered("from a by v0 take v0 order down count;", "1|2|?");
        answered("from a by v0 take v0 order count;", "2|?|1");
    }

    private static void firsts() {
        edge("section 4", "Then the first so many stay, if first is told");
        answered("from a take w0 first 0;", "");
        answered("from a take w0 first 1;", "10");
        answered("from a take w0 first 4;", "10|20|30|40");
        answered("from a take w0 first 5;", "10|20|30|40");
        answered("from a take w0 first 999999999;", "10|20|30|40");
        answered("from a take w0 order down w0 first 2;", "40|30");
        answered("from a by v0 take v0 first 2;", "1|2");
        answered("from a take count first 0;", "");
        answered("from a take count first 1;", "4");
        answered("from c take count first 1;", "0");
    }

    // ---- promises 21 and 22

    private static void asking() {
        edge("promise 21", "IllegalArgumentException if the text has a fault, or is a change");
        x.table(2);
        refused(ARGUMENT, "an empty text", () -> x.ask());
        type("put a 1,2;");
        refused(ARGUMENT, "a change", () -> x.ask());
        due(1, "the text stays", () -> x.change());
        type("from a take z0;");
        refused(ARGUMENT, "a fault of kind 2", () -> x.ask());
        text("from a take v0");
        refused(ARGUMENT, "a fault of kind 1", () -> x.ask());
        due(0, "the text stays", () -> type(";") == 15 ? x.ask() : -1);
        due(0, "the text is emptied", () -> x.type(0));
        edge("promise 21", "IllegalStateException if there are 12");
        x.table(1);
        for (int i = 0; i < 12; i++) {
            int number = i;
            due(number, "its number, from 0 on", () -> ask("from a take " + number + ";"));
        }
        text("from a take 12;");
        refused(STATE, "the 13th", () -> x.ask());
        text("from b take 12;");
        refused(ARGUMENT, "what is listed first", () -> x.ask());
        due("11", "the last one", () -> program(11, 1, 0));
        due("0", "the first one", () -> program(0, 1, 0));
        edge("promise 21", "Keeps the text as a question: tables that come later are not in it");
        x.table(2);
        ask("from a take w0;");
        x.table(5);
        change("put a 1,2;");
        due("1 0 1 0 0 0", "the question", () -> questionAt(0));
        due(1, "its answer", () -> x.rows(0, 1));
    }

    private static void whatIsTold() {
        edge("promise 22", "0 its sources, 1 its conjuncts, 2 its items, 3 its keys, 4 1 if it is GROUPED, otherwise 0, 5 its equalities");
        x.table(2);
        ask("from a take 1;");
        ask("from a,a,a where v0=v1 and v1=v2 and w2=w0 take 1,2,3,4,5 order 1,2,3;");
        ask("from a,a where v0=v1 and v0=1 by v0 with v0=1 take count;");
        due("1 0 1 0 0 0", "the least one", () -> questionAt(0));
        due("3 3 5 3 0 3", "a great one", () -> questionAt(1));
        due("2 2 1 0 1 1", "a GROUPED one", () -> questionAt(2));
        edge("promise 22", "IllegalArgumentException if what is out of range");
        refused(BOUNDS, "no question at all", () -> x.questionAt(0, 0));
        x.table(1);
        ask("from a take 1;");
        refused(ARGUMENT, "what 6", () -> x.questionAt(0, 6));
        refused(ARGUMENT, "what -1", () -> x.questionAt(0, -1));
        refused(ARGUMENT, "what of the least int", () -> x.questionAt(0, LEAST_INT));
        refused(ARGUMENT, "what of the greatest int", () -> x.questionAt(0, GREATEST_INT));
        refused(BOUNDS, "question 1", () -> x.questionAt(1, 0));
        refused(BOUNDS, "question -1, what 6", () -> x.questionAt(-1, 6));
        refused(BOUNDS, "question of the greatest int", () -> x.questionAt(GREATEST_INT, 0));
    }

    private static void equal(String test, int conjuncts, int equalities) {
        x = new Columnworks();
        x.table(2);
        ask("from a,a" + test + " take 1;");
        due(conjuncts + " " + equalities, "conjuncts and equalities of" + test, () -> x.questionAt(0, 1) + " " + x.questionAt(0, 5));
    }

    private static void conjuncts() {
        edge("section 5", "if the test behind where has no or at its top, its parts that and joins; otherwise the whole test; none without where");
        equal("", 0, 0);
        equal(" where v0=1", 1, 0);
        equal(" where v0=1 and v0=2", 2, 0);
        equal(" where v0=1 and v0=2 and v0=3", 3, 0);
        equal(" where v0=1 or v0=2", 1, 0);
        equal(" where v0=1 and v0=2 or v0=3", 1, 0);
        equal(" where v0=1 or v0=2 and v0=3", 1, 0);
        equal(" where [v0=1 or v0=2]and v0=3", 2, 0);
        equal(" where [v0=1 and v0=2]", 1, 0);
        equal(" where not[v0=1 and v0=2]and v0=3", 2, 0);
        equal(" where not v0=1", 1, 0);
        equal(" where some(from a where v2=1 or v2=2)and v0=1", 2, 0);
        equal(" where some(from a where v2=1 and v2=2)", 1, 0);
        equal(" where 1=1 and 1=1", 2, 0);
        equal(" where 1=1" + "and 1=1".repeat(20), 21, 0);
        edge("section 6", "EQUALITIES are conjuncts that are a ref = a ref of another source (each alone on its side, without brackets)");
        equal(" where v0=v1", 1, 1);
        equal(" where v1=v0", 1, 1);
        equal(" where v0=w1 and v1=v0 and v0=v1", 3, 3);
        equal(" where v0=w0", 1, 0);
        equal(" where w0=v0", 1, 0);
        equal(" where v1=w1", 1, 0);
        equal(" where w1=v1 and w1=w1", 2, 0);
        equal(" where v0=v0", 1, 0);
        equal(" where v0<=v1 and v0<>v1 and v0<v1", 3, 0);
        equal(" where v0=v1+0", 1, 0);
        equal(" where v0+0=v1", 1, 0);
        equal(" where (v0)=v1", 1, 0);
        equal(" where v0=(v1)", 1, 0);
        equal(" where v0=-v1", 1, 0);
        equal(" where not v0=v1", 1, 0);
        equal(" where [v0=v1]", 1, 0);
        equal(" where v0=v1 or v0=v1", 1, 0);
        equal(" where some(from a where v2=v0)", 1, 0);
        equal(" where v0=1 and v0=v1", 2, 1);
    }

    // ---- programs

    private static void item(String sum, String want) {
        x = new Columnworks();
        x.table(5);
        ask("from a take " + sum + ";");
        due(want, "the program of " + sum, () -> program(0, 1, 0));
        ask("from a take 1 order down " + sum + ";");
        due(want, "the program of a key down " + sum, () -> program(1, 2, 0));
    }

    private static void test(String test, String want) {
        x = new Columnworks();
        x.table(5);
        x.table(1);
        ask("from a where " + test + " take 1;");
        due(want, "the program of " + test, () -> program(0, 0, 0));
    }

    private static void constants() {
        edge("section 5", "Of a sum without refs and aggregates it is its value: a number (with a - if it is below 0), or lack");
        item("0", "0");
        item("-0", "0");
        item("007", "7");
        item("999999999", "999999999");
        item("-999999999", "-999999999");
        item("1+2*3-4/5", "7");
        item("-(-5)", "5");
        item("---5", "-5");
        item("1-2", "-1");
        item("5/0", "lack");
        item("1+0/0", "lack");
        item("'a'", "10460353203");
        item("-'zzzzzzzz'", "-282429536480");
        item("65536*65536*65536*32768", "" + Long.MIN_VALUE);
        item("65536*65536*65536*32768-1", "" + Long.MAX_VALUE);
        item("(((3)))", "3");
        item("v0+(2-5)", "v0 -3 +");
        item("v0/(1-1)", "v0 0 /");
        item("v0*(1/0)", "v0 lack *");
        item("1+2+v0", "3 v0 +");
        item("v0+1+2", "v0 1 + 2 +");
        item("2*3*v0+4*5", "6 v0 * 20 +");
        item("total(2*2)+(1+1)", "4 total 2 +");
        item("total(1)+1+1", "1 total 1 + 1 +");
        item("1+1+count", "2 count +");
        edge("section 5", "Of a test without refs and aggregates: so, or no");
        test("1=1", "so");
        test("1<1", "no");
        test("1<=1", "so");
        test("1<>1", "no");
        test("1/0=1/0", "no");
        test("not 1/0=1/0", "so");
        test("lacks(1/0)", "so");
        test("lacks 3", "no");
        test("[1=2 or 2=2]", "so");
        test("v0=1 or 1=2 and 2=2", "v0 1 = no or");
        test("1=1 or v0=1", "so v0 1 = or");
        test("[1=1 and 2=2 and v0=1]", "so v0 1 = and");
        test("[v0=1 and 1=1 and 2=2]", "v0 1 = so and so and");
        edge("section 5", "(A test with some or in within it is not such a one, whatever stands there.)");
        test("some(from b)", "from b some");
        test("some(from b where 1=2)", "from b no where some");
        test("not some(from b where 1=1 or 1=2)", "from b so where some not");
        test("1 in(from b take 2)", "1 from b 2 in");
        test("1 in(from b where 1=1 take 1/0)or 1=1", "1 from b so where lack in so or");
        test("[1=1 and not[some(from b)]]", "so from b some not and");
    }

    private static void signs() {
        edge("section 5", "of a minus of a unit the program of the unit, then neg; Brackets leave no trace");
        item("v0", "v0");
        item("z0", "z0");
        item("-v0", "v0 neg");
        item("--v0", "v0 neg neg");
        item("-(v0+1)", "v0 1 + neg");
        item("-v0*2", "v0 neg 2 *");
        item("1--v0", "1 v0 neg -");
        item("(((v0)))", "v0");
        edge("section 5", "of two parts with a sign between them; of several the first two are joined first");
        item("v0+w0", "v0 w0 +");
        item("v0-w0-x0", "v0 w0 - x0 -");
        item("v0-(w0-x0)", "v0 w0 x0 - -");
        item("v0*w0+x0/y0", "v0 w0 * x0 y0 / +");
        item("v0*(w0+x0)/y0", "v0 w0 x0 + * y0 /");
        item("(1+v0)*(2+3)", "1 v0 + 5 *");
        item("count", "count");
        item("total(v0+1)*2-least(w0)/most(-x0)", "v0 1 + total 2 * w0 least x0 neg most / -");
        test("v0<1", "v0 1 <");
        test("v0<=w0", "v0 w0 <=");
        test("1=v0", "1 v0 =");
        test("v0<>-1", "v0 -1 <>");
        test("lacks v0", "v0 lacks");
        test("lacks(v0+1)", "v0 1 + lacks");
        test("not lacks -v0", "v0 neg lacks not");
        test("not not v0=1", "v0 1 = not not");
        test("v0=1 or w0=2 or x0=3", "v0 1 = w0 2 = or x0 3 = or");
        test("v0=1 or[w0=2 or x0=3]", "v0 1 = w0 2 = x0 3 = or or");
        test("[v0=1 and w0=2 and x0=3]", "v0 1 = w0 2 = and x0 3 = and");
        test("v0=1 and w0=2 or x0=3", "v0 1 = w0 2 = and x0 3 = or");
    }

    private static void innerPrograms() {
        edge("section 5", "Of some: from; the letters of its tables; the program of its test, then where, if it has one; then some");
        test("some(from b,a where z2=v0 or v1=1)", "from b a z2 v0 = v1 1 = or where some");
        test("some(from a)", "from a some");
        test("not some(from b where not v1=v0)", "from b v1 v0 = not where some not");
        edge("section 5", "Of in: the program of the sum ahead; from; the letters; the test, then where; the sum behind take; then in");
        test("v0 in(from b take v1)", "v0 from b v1 in");
        test("v0+1 in(from b where v1<2 take v1*2)", "v0 1 + from b v1 2 < where v1 2 * in");
        test("not v0 in(from b,b take v1+v2)", "v0 from b b v1 v2 + in not");
        test("[w0=1 and v0 in(from b take -v1)]", "w0 1 = v0 from b v1 neg in and");
    }

    private static void overPrograms() {
        edge("section 5", "of run the program of its sum; then the refs ahead of along; then along; then the ref behind it; then rank, or run");
        x.table(5);
        ask("from a take rank over(along v0),rank over(w0,x0,y0 along z0),run(1+1)over(along v0),run(-v0)over(w0,w0 along w0),v0;");
        due("along v0 rank", "rank without refs", () -> program(0, 1, 0));
        due("w0 x0 y0 along z0 rank", "rank with three", () -> program(0, 1, 1));
        due("2 along v0 run", "run of a number", () -> program(0, 1, 2));
        due("v0 neg w0 w0 along w0 run", "run with two", () -> program(0, 1, 3));
        due("v0", "an item behind them", () -> program(0, 1, 4));
        edge("section 5", "3 of the test behind with");
        x.table(2);
        ask("from a by v0 with 1+1=2 take v0;");
        ask("from a by v0 with count<2 or not lacks total(w0)take v0;");
        due("so", "without refs", () -> program(0, 3, 0));
        due("count 2 < w0 total lacks not or", "with aggregates", () -> program(1, 3, 0));
    }

    private static void programsRefused() {
        edge("promise 23", "IndexOutOfBoundsException, IllegalArgumentException, NoSuchElementException, in this order");
        refused(BOUNDS, "no question at all", () -> x.program(0, 0, 0));
        x.table(2);
        ask("from a where v0=1 and w0=2 take v0,w0 order v0,w0,1;");
        ask("from a by v0 with count=1 take v0;");
        ask("from a take 1;");
        due("6 6 2 2 2 1", "the last ones", () -> x.program(0, 0, 0) + " " + x.program(0, 0, 1) + " " + x.program(0, 1, 1) + " " + x.program(0, 2, 0)
                + " " + x.program(0, 2, 1) + " " + x.program(0, 2, 2));
        due("1", "what was written last", () -> out());
        refused(NONE_SUCH, "conjunct 2", () -> x.program(0, 0, 2));
        refused(NONE_SUCH, "item 2", () -> x.program(0, 1, 2));
        refused(NONE_SUCH, "key 3", () -> x.program(0, 2, 3));
        refused(NONE_SUCH, "no with", () -> x.program(0, 3, 0));
        due(9, "with", () -> x.program(1, 3, 0));
        refused(NONE_SUCH, "with 1", () -> x.program(1, 3, 1));
        refused(NONE_SUCH, "with -1", () -> x.program(1, 3, -1));
        refused(NONE_SUCH, "no conjunct", () -> x.program(2, 0, 0));
        refused(NONE_SUCH, "no key", () -> x.program(2, 2, 0));
        for (int i = 0; i < 4; i++) {
            int what = i;
            refused(NONE_SUCH, "index -1", () -> x.program(0, what, -1));
            refused(NONE_SUCH, "index of the least int", () -> x.program(0, what, LEAST_INT));
            refused(NONE_SUCH, "index of the greatest int", () -> x.program(0, what, GREATEST_INT));
        }
        refused(ARGUMENT, "what 4", () -> x.program(0, 4, 0));
        refused(ARGUMENT, "what -1, index -1", () -> x.program(0, -1, -1));
        refused(ARGUMENT, "what of the least int", () -> x.program(0, LEAST_INT, 0));
        refused(ARGUMENT, "what of the greatest int", () -> x.program(0, GREATEST_INT, 9));
        refused(BOUNDS, "question 3", () -> x.program(3, 0, 0));
        refused(BOUNDS, "question -1, what 4, index -1", () -> x.program(-1, 4, -1));
        due("count 1 =", "the OUTPUT stays", () -> out());
    }

    // ---- promise 24

    private static void tooManyRows() {
        edge("promise 24", "the numbers of versions of its sources that are alive as of the moment multiply to more than 500");
        x.table(1);
        x.table(1);
        x.table(1);
        x.fill(0, 25, 0, 1, 100, false);
        x.fill(1, 20, 0, 1, 100, false);
        x.fill(2, 1, 0, 1, 100, false);
        ask("from a,b take 1;");
        ask("from a,b,c take 1;");
        ask("from a,b,c where 1=2 take count first 0;");
        due("500 500 0", "500", () -> x.rows(0, 3) + " " + x.rows(1, 3) + " " + x.rows(2, 3));
        change("put b 99;");
        refused(STATE, "525", () -> x.rows(0, 4));
        refused(STATE, "525, also if none would stay", () -> x.rows(2, 4));
        due("500 0 0", "as of earlier moments", () -> x.rows(0, 3) + " " + x.rows(0, 1) + " " + x.rows(0, 0));
        change("drop b where v=99;");
        due(500, "500 again: dead ones do not count", () -> x.rows(1, 5));
        change("put c 99;");
        due(500, "of two sources", () -> x.rows(0, 6));
        refused(STATE, "1000 of three", () -> x.rows(1, 6));
        change("drop c;");
        due("0 0", "none of a source: 0 in all", () -> x.rows(1, 7) + " " + x.rows(2, 7));
        edge("promise 24", "none of a source, and very many of the others");
        x.table(1);
        x.table(1);
        x.fill(0, 64, 0, 0, 1, false);
        x.fill(0, 64, 0, 0, 1, false);
        ask("from a,a,b take 1;");
        ask("from a,a,a take 1;");
        due(0, "128 * 128 * 0", () -> x.rows(0, 2));
        refused(STATE, "128 * 128 * 128", () -> x.rows(1, 2));
        edge("promise 24", "or those of its sources and of any one of its inner questions together do");
        x.table(1);
        x.table(1);
        x.table(1);
        x.fill(0, 10, 0, 1, 100, false);
        x.fill(1, 50, 0, 1, 100, false);
        ask("from a where some(from b)take 1;");
        ask("from a where some(from b)and some(from b)and v0 in(from b take v1)take 1;");
        ask("from a where some(from b)or v0 in(from c take v1)and some(from b,c)take 1;");
        ask("from a where 1=2 and some(from b,b)take 1;");
        ask("from c where some(from b,b)take 1;");
        ask("from a where some(from b)and some(from a,a)take 1;");
        due("10 10 10", "500 each", () -> x.rows(0, 2) + " " + x.rows(1, 2) + " " + x.rows(2, 2));
        refused(STATE, "10 * 50 * 50", () -> x.rows(3, 2));
        due(0, "none of the source, so 0 together", () -> x.rows(4, 2));
        refused(STATE, "any one: 10 * 10 * 10", () -> x.rows(5, 2));
        change("put b 7;");
        refused(STATE, "10 * 51", () -> x.rows(0, 3));
        refused(STATE, "10 * 51", () -> x.rows(2, 3));
        due(10, "as of the moment ahead", () -> x.rows(0, 2));
        change("put c 1;");
        refused(STATE, "1 * 51 * 51", () -> x.rows(4, 4));
    }

    private static void sweptSince() {
        edge("promise 24", "IllegalStateException if the SINCE of a table of it (or of an inner question) is later");
        x.table(1);
        x.table(1);
        x.fill(0, 3, 0, 1, 100, false);
        x.fill(1, 3, 0, 1, 100, false);
        ask("from a take 1;");
        ask("from a,b take 1;");
        ask("from a where some(from b)take 1;");
        ask("from a where v0 in(from a,b take 1)take 1;");
        change("drop a where v=0;");
        x.sweep(1);
        due("3 2", "b is not of it", () -> x.rows(0, 2) + " " + x.rows(0, 3));
        refused(STATE, "of a source", () -> x.rows(1, 2));
        refused(STATE, "of an inner question", () -> x.rows(2, 2));
        refused(STATE, "of an inner question", () -> x.rows(3, 0));
        due("6 2", "as of the SINCE", () -> x.rows(1, 3) + " " + x.rows(2, 3));
        change("put a 5;");
        due("6 9", "as of SINCE and later", () -> x.rows(1, 3) + " " + x.rows(1, 4));
        edge("promise 24", "a sweep that takes out nothing");
        x.table(1);
        change("put a 1;");
        ask("from a take 1;");
        due(0, "as of 0", () -> x.rows(0, 0));
        x.sweep(0);
        refused(STATE, "as of 0", () -> x.rows(0, 0));
        due(1, "as of 1", () -> x.rows(0, 1));
    }

    private static void rowsRefused() {
        edge("promise 24", "IndexOutOfBoundsException, IllegalArgumentException, IllegalStateException, in this order");
        refused(BOUNDS, "no question at all", () -> x.rows(0, 0));
        x.table(1);
        ask("from a,a,a take 1;");
        due(0, "the moment 0", () -> x.rows(0, 0));
        refused(ARGUMENT, "moment 1", () -> x.rows(0, 1));
        refused(ARGUMENT, "moment -1", () -> x.rows(0, -1));
        x.fill(0, 8, 0, 0, 1, false);
        refused(STATE, "512 rows", () -> x.rows(0, 1));
        refused(ARGUMENT, "moment 2", () -> x.rows(0, 2));
        refused(ARGUMENT, "moment of the least int", () -> x.rows(0, LEAST_INT));
        refused(ARGUMENT, "moment of the greatest int", () -> x.rows(0, GREATEST_INT));
        refused(BOUNDS, "question 1", () -> x.rows(1, 0));
        refused(BOUNDS, "question -1, moment -1", () -> x.rows(-1, -1));
        refused(BOUNDS, "question of the greatest int", () -> x.rows(GREATEST_INT, 0));
        x.sweep(0);
        refused(STATE, "ahead of SINCE", () -> x.rows(0, 0));
        refused(ARGUMENT, "moment 2, ahead of all else", () -> x.rows(0, 2));
    }
}
