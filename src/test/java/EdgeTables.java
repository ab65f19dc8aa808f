/** Boundary cases of tables, moments, zones and packing: the sections 1 and 2 and the promises 6 to 20 and 51. */
public final class EdgeTables extends Edges {
    private static final String LEAST_LONG = "0-65536*65536*65536*32768";
    private static final String GREATEST_LONG = "65536*65536*65536*32768-1";

    public static void main(String[] args) {
        goingRound();
        manyTables();
        putting();
        setting();
        dropping();
        changesRefused();
        moments();
        filling();
        fillingRefused();
        sweeping();
        whatIsToldOfTables();
        livesAndValues();
        zones();
        plainAndRuns();
        lists();
        frames();
        steps();
        leastSize();
        packing();
        sizesRefused();
        bounds();
        tallies();
        meanSizes();
        finish();
    }

    private static void goingRound() {
        edge("section 1", "sums, differences and products go round");
        x.table(2);
        change("put a 1,0;");
        change("set a w=" + GREATEST_LONG + ";");
        due(Long.MAX_VALUE, "the greatest long", () -> x.value(0, 1, 1));
        change("set a w=w+v;");
        due(Long.MIN_VALUE, "and 1", () -> x.value(0, 2, 1));
        change("set a w=w-v;");
        due(Long.MAX_VALUE, "less 1", () -> x.value(0, 3, 1));
        change("set a w=w*2;");
        due(-2L, "times 2", () -> x.value(0, 4, 1));
        change("set a w=" + LEAST_LONG + ";");
        change("set a w=-w;");
        due(Long.MIN_VALUE, "less the least long", () -> x.value(0, 6, 1));
        change("set a w=w/-1;");
        due(Long.MIN_VALUE, "by -1", () -> x.value(0, 7, 1));
        change("set a w=w*w;");
        due(0L, "its square", () -> x.value(0, 8, 1));
        due(0, "errors()", () -> x.errors());
    }

    private static void manyTables() {
        edge("promise 6", "columns: 1 to 5");
        refused(ARGUMENT, "table(0)", () -> x.table(0));
        refused(ARGUMENT, "table(6)", () -> x.table(6));
        refused(ARGUMENT, "table(-1)", () -> x.table(-1));
        refused(ARGUMENT, "table of the least int", () -> x.table(LEAST_INT));
        refused(ARGUMENT, "table of the greatest int", () -> x.table(GREATEST_INT));
        due(0, "table(1)", () -> x.table(1));
        due(1, "table(5)", () -> x.table(5));
        due("1 5", "columns", () -> x.tableAt(0, 0) + " " + x.tableAt(1, 0));

        edge("promise 6", "IllegalStateException if there are 4");
        for (int i = 0; i < 4; i++) {
            int number = i;
            due(number, "table(2)", () -> x.table(2));
        }
        refused(STATE, "the fifth one", () -> x.table(1));
        refused(ARGUMENT, "what is listed first", () -> x.table(0));
        refused(ARGUMENT, "what is listed first", () -> x.table(6));
        due("2 0 0 0 0", "d", () -> tableAt(3));
        due(1, "put d", () -> change("put d 1,2;"));

        edge("section 1", "1 to 5 COLUMNS, numbered from 0 and called v, w, x, y, z");
        x.table(5);
        change("put a 1,2,3,4,5;");
        change("set a z=v*10000+w*1000+x*100+y*10+z;");
        due("1 2 3 4 12345", "all five", () -> version(0, 1));
    }

    private static void putting() {
        edge("section 1", "put: one version behind the last one");
        x.table(2);
        due(1, "the first one", () -> change("put a 7,lack;"));
        due(0, "the text is emptied", () -> x.wipe());
        change("drop a;");
        due(1, "one behind a dead one", () -> change("put a -1,'b';"));
        due("7 ?|-1 20920706406", "the versions", () -> versions(0));
        due("1 2|3 -1", "their moments", () -> lives(0));

        edge("promise 7", "IllegalStateException if the table would have more than 128 versions (put)");
        x.table(1);
        x.fill(0, 64, 0, 0, 1, false);
        x.fill(0, 63, 0, 0, 1, false);
        due(1, "the 128th", () -> change("put a 5;"));
        due("1 128 128 8 0", "128", () -> tableAt(0));
        text("put a 6;");
        refused(STATE, "the 129th", () -> x.change());
        change("drop a where v=5;");
        text("put a 6;");
        refused(STATE, "a dead one is a version, too", () -> x.change());
        x.sweep(0);
        due(1, "the same text, when there is room", () -> x.change());
        due("6 128", "the text had stayed", () -> x.value(0, 127, 0) + " " + x.tableAt(0, 1));
    }

    private static void setting() {
        edge("section 1", "set: for each version that is alive and for which the test is so (without a test for each), by places");
        x.table(2);
        x.fill(0, 4, 0, 1, 100, false);
        change("drop a where v=1;");
        due(3, "without a test", () -> change("set a w=v*10;"));
        due("0 0|1 2|2 6|3 12|0 0|2 20|3 30", "the versions", () -> versions(0));
        due("1 3|1 2|1 3|1 3|3 -1|3 -1|3 -1", "it dies, and one is put", () -> lives(0));
        due(1, "with a test", () -> change("set a v=99 where w=20;"));
        due("99 20", "in one column alone", () -> version(0, 7));
        due(0, "of none", () -> change("set a v=1 where v=77;"));
        due("5 8", "no version is put, but the moment is another one", () -> x.moment() + " " + x.tableAt(0, 1));
        due(0, "dead ones are not set", () -> change("set a v=1 where w=12;"));
        change("drop a;");
        due(0, "none is alive", () -> change("set a v=1;"));

        edge("section 1", "The sum and the test are worked out with the values of the dying one. (Those put behind are not looked at again.)");
        x.table(2);
        change("put a 1,1;");
        change("put a 2,1;");
        due(2, "a test that is so for what is put, too", () -> change("set a v=v+1 where v<=2;"));
        due("1 1|2 1|2 1|3 1", "once", () -> versions(0));
        due(1, "a test of the column that is set", () -> change("set a w=w+v where w=1 and v=3;"));
        due("3 4", "once", () -> version(0, 4));
        due(2, "a sum of the column that is set, and of the other one", () -> change("set a v=w-v*v;"));
        due("-3 1|-5 4", "the values of the dying one", () -> version(0, 5) + "|" + version(0, 6));

        edge("section 4", "A sum is LACKING if one of its parts is, or by a division by 0; a quotient is rounded toward 0");
        String[] sums = {"v", "v+1", "1-v", "v*0", "0/v", "-v", "w/0", "0/0", "w/(w-7)", "w/2", "-w/2", "w/-2", "-7/(0-2)", "6/3", "0/5"};
        String[] made = {"?", "?", "?", "?", "?", "?", "?", "?", "?", "3", "-3", "-3", "3", "2", "0"};
        for (int i = 0; i < sums.length; i++) {
            x = new Columnworks();
            x.table(3);
            change("put a lack,7,9;");
            change("set a x=" + sums[i] + ";");
            due("? 7 " + made[i], "set a x=" + sums[i], () -> version(0, 1));
        }

        edge("promise 7", "IllegalStateException if the table would have more than 128 versions (set)");
        x.table(1);
        x.fill(0, 64, 0, 1, 1000, false);
        due(64, "64 and 64", () -> change("set a v=v+100;"));
        due(128, "128", () -> x.tableAt(0, 1));
        text("set a v=5 where v=100;");
        refused(STATE, "one more", () -> x.change());
        text("set a v=5;");
        refused(STATE, "64 more", () -> x.change());
        due(0, "none more", () -> change("set a v=5 where v=0;"));
        due(64, "drop needs no room", () -> change("drop a;"));
        x.sweep(0);
        x.fill(0, 64, 0, 1, 1000, false);
        x.fill(0, 1, 64, 1, 1000, false);
        text("set a v=v+1;");
        refused(STATE, "65 and 65", () -> x.change());
        due(63, "65 and 63", () -> change("set a v=v+1 where v<63;"));
        due("128 65", "128", () -> x.tableAt(0, 1) + " " + x.tableAt(0, 2));
    }

    private static void dropping() {
        edge("section 1", "drop: each version that is alive and for which the test is so dies");
        x.table(1);
        x.fill(0, 3, 0, 1, 100, false);
        change("put a lack;");
        due(1, "one of four", () -> change("drop a where v=1;"));
        due(0, "a dead one does not die again", () -> change("drop a where v=1;"));
        due(1, "not of a comparison with LACKING is so", () -> change("drop a where not v<5;"));
        due(2, "without a test", () -> change("drop a;"));
        due(0, "when none is alive", () -> change("drop a;"));
        due("1 6|1 3|1 6|2 5", "their moments", () -> lives(0));
        due(7, "each of them is a change", () -> x.moment());
    }

    private static void changesRefused() {
        edge("promise 7", "IllegalArgumentException if the text has a fault, or is a question");
        x.table(1);
        refused(ARGUMENT, "an empty text", () -> x.change());
        type("put a 1,2;");
        refused(ARGUMENT, "a fault of kind 2", () -> x.change());
        x.wipe();
        type("put a 1");
        refused(ARGUMENT, "a fault of kind 1", () -> x.change());
        due(1, "the text stays as it is", () -> x.type(';') == 8 ? x.change() : -1);
        type("from a take v0;");
        refused(ARGUMENT, "a question", () -> x.change());
        due(0, "the text stays", () -> x.ask());

        edge("promise 7", "what is listed first is thrown");
        x.table(1);
        x.fill(0, 64, 0, 0, 1, false);
        x.fill(0, 64, 0, 0, 1, false);
        type("put a 1,2;");
        refused(ARGUMENT, "a fault, and no room", () -> x.change());
    }

    private static void moments() {
        edge("promise 10", "Returns the moment");
        due(0, "of a new object", () -> x.moment());
        x.table(1);
        due(0, "table() is no change", () -> x.moment());
        change("put a 1;");
        due(1, "behind one change", () -> x.moment());
        refused(BOUNDS, "fill of no table", () -> x.fill(1, 1, 0, 0, 1, false));
        due(1, "what throws is none", () -> x.moment());
        x.fill(0, 64, 0, 0, 1, false);
        due(2, "fill is one change", () -> x.moment());

        edge("section 1", "The MOMENT is 0 at first. Each change makes it 1 more (also one by which all stays the same)");
        x.table(1);
        x.table(1);
        due(0, "at first", () -> x.moment());
        change("drop a;");
        due(1, "drop of none", () -> x.moment());
        change("set b v=1;");
        due(2, "set of none", () -> x.moment());
        x.fill(0, 64, 0, 0, 1, false);
        due(3, "fill is one change", () -> x.moment());
        x.begin(true);
        x.finish(0, false);
        due(4, "a writer that did nothing", () -> x.moment());
        x.sweep(0);
        x.tally(0);
        x.pack(0, 0, 1);
        x.index(0, 0);
        due(4, "what is no change", () -> x.moment());
        text("put a 1,1;");
        due(ARGUMENT, "a fault", () -> x.change());
        due(4, "what throws is none", () -> x.moment());

        edge("section 1", "ALIVE as of a moment if it was born then or earlier, and did not die then or earlier");
        x.table(1);
        change("put a 1;");
        change("put a 2;");
        change("drop a where v=1;");
        change("drop a;");
        ask("from a take v0;");
        due("0 1 2 1 0", "rows as of 0 to 4", () -> x.rows(0, 0) + " " + x.rows(0, 1) + " " + x.rows(0, 2) + " " + x.rows(0, 3) + " " + x.rows(0, 4));
    }

    private static void filling() {
        edge("promise 8", "the rest of start + i * step + j * i * i by modulo, or is LACKING, if this rest is modulo - 1 and lacks is so");
        x.table(3);
        due(4, "four", () -> x.fill(0, 4, 5, 3, 7, true));
        // 5 8 11 14; 5 9 15 23; 5 10 19 32, by 7
        due("5 5 5|1 2 3|4 1 5|0 2 4", "no rest is 6", () -> versions(0));
        due(7, "three behind them", () -> x.fill(0, 3, 1, 1, 3, true));
        due("1 1 1|? 0 1|0 1 ?", "a rest of 2 is LACKING", () -> version(0, 4) + "|" + version(0, 5) + "|" + version(0, 6));
        due(10, "the same without", () -> x.fill(0, 3, 1, 1, 3, false));
        due("1 1 1|2 0 1|0 1 2", "a rest of 2", () -> version(0, 7) + "|" + version(0, 8) + "|" + version(0, 9));
        due("1 -1", "born at the new moment", () -> x.lived(0, 3, false) + " " + x.lived(0, 3, true));
        due("2 3 3", "born at the new moment", () -> x.lived(0, 6, false) + " " + x.lived(0, 7, false) + " " + x.moment());

        edge("promise 8", "modulo: 1 to 1000000");
        x.table(2);
        due(2, "modulo 1, with lacks", () -> x.fill(0, 2, 5, 5, 1, true));
        due("? ?|? ?", "each rest is 0, that is modulo - 1", () -> versions(0));
        due(4, "modulo 1, without", () -> x.fill(0, 2, 5, 5, 1, false));
        due("0 0|0 0", "each rest is 0", () -> version(0, 2) + "|" + version(0, 3));
        due(5, "modulo 1000000", () -> x.fill(0, 1, 999999, 0, 1000000, true));
        due("? ?", "a rest of 999999", () -> version(0, 4));
        due(6, "start 1000000", () -> x.fill(0, 1, 1000000, 0, 1000000, true));
        due("0 0", "a rest of 0", () -> version(0, 5));

        edge("promise 8", "start, step: 0 to 1000000; many: 1 to 64");
        x.table(5);
        due(64, "the greatest of all", () -> x.fill(0, 64, 1000000, 1000000, 999999, false));
        for (int i = 0; i < 64; i += 9) {
            for (int j = 0; j < 5; j++) {
                long rest = (1000000L + i * 1000000L + (long) j * i * i) % 999999;
                int place = i;
                int column = j;
                due(rest, "the version " + i + " in the column " + j, () -> x.value(0, place, column));
            }
        }
        due(65, "the least of all", () -> x.fill(0, 1, 0, 0, 1, false));
        due("0 0 0 0 0", "the least of all", () -> version(0, 64));
    }

    private static void fillingRefused() {
        edge("promise 8", "IndexOutOfBoundsException, IllegalArgumentException, IllegalStateException, in this order");
        refused(BOUNDS, "no table at all", () -> x.fill(0, 1, 0, 0, 1, false));
        x.table(1);
        refused(BOUNDS, "table 1", () -> x.fill(1, 1, 0, 0, 1, false));
        refused(BOUNDS, "table -1", () -> x.fill(-1, 1, 0, 0, 1, false));
        refused(BOUNDS, "table 4", () -> x.fill(4, 0, -1, -1, 0, false));
        refused(BOUNDS, "table of the greatest int", () -> x.fill(GREATEST_INT, 1, 0, 0, 1, false));
        refused(BOUNDS, "table of the least int", () -> x.fill(LEAST_INT, 1, 0, 0, 1, false));
        int[][] wrong = {{0, 0, 0, 1}, {65, 0, 0, 1}, {-1, 0, 0, 1}, {LEAST_INT, 0, 0, 1}, {GREATEST_INT, 0, 0, 1}, {1, -1, 0, 1},
            {1, 1000001, 0, 1}, {1, LEAST_INT, 0, 1}, {1, GREATEST_INT, 0, 1}, {1, 0, -1, 1}, {1, 0, 1000001, 1}, {1, 0, LEAST_INT, 1},
            {1, 0, GREATEST_INT, 1}, {1, 0, 0, 0}, {1, 0, 0, -1}, {1, 0, 0, 1000001}, {1, 0, 0, LEAST_INT}, {1, 0, 0, GREATEST_INT}};
        for (int[] w : wrong) {
            refused(ARGUMENT, "many " + w[0] + ", start " + w[1] + ", step " + w[2] + ", modulo " + w[3],
                    () -> x.fill(0, w[0], w[1], w[2], w[3], true));
        }
        x.fill(0, 64, 0, 0, 1, false);
        x.fill(0, 63, 0, 0, 1, false);
        refused(STATE, "127 and 2", () -> x.fill(0, 2, 0, 0, 1, false));
        refused(STATE, "127 and 64", () -> x.fill(0, 64, 0, 0, 1, false));
        due(128, "127 and 1", () -> x.fill(0, 1, 0, 0, 1, false));
        refused(STATE, "128 and 1", () -> x.fill(0, 1, 0, 0, 1, false));
        refused(ARGUMENT, "out of range, and no room", () -> x.fill(0, 65, 0, 0, 1, false));
        refused(ARGUMENT, "out of range, and no room", () -> x.fill(0, 1, 0, 0, 0, false));
        refused(BOUNDS, "no table, and out of range", () -> x.fill(1, 65, 0, 0, 0, false));
        change("drop a;");
        refused(STATE, "dead ones are versions, too", () -> x.fill(0, 1, 0, 0, 1, false));
    }

    private static void sweeping() {
        edge("section 1", "all versions that have died are taken out; the others move up, in their order");
        x.table(2);
        x.fill(0, 6, 0, 1, 100, true);
        change("put a lack,5;");
        change("drop a where v=0 or v=2 or v=3;");
        due(3, "three of seven", () -> x.sweep(0));
        due("1 2|4 20|5 30|? 5", "the others", () -> versions(0));
        due("1 -1|1 -1|1 -1|2 -1", "with their moments", () -> lives(0));
        due(0, "none more", () -> x.sweep(0));
        change("drop a;");
        due(4, "all", () -> x.sweep(0));
        due("2 0 0 0 4", "no version, no zone", () -> tableAt(0));
        due(1, "and one again", () -> change("put a 8,9;"));
        due("8 9", "at the place 0", () -> versions(0));
        refused(BOUNDS, "place 1", () -> x.lived(0, 1, false));

        edge("section 1", "Its SINCE, 0 at first, becomes the moment then. It is no change");
        x.table(1);
        x.table(1);
        due("0 0", "at first", () -> x.tableAt(0, 4) + " " + x.tableAt(1, 4));
        due(0, "an empty table", () -> x.sweep(0));
        due(0, "at the moment 0", () -> x.tableAt(0, 4));
        change("put a 1;");
        due(0, "none has died", () -> x.sweep(0));
        due("1 0 1", "the moment then, of this table alone", () -> x.tableAt(0, 4) + " " + x.tableAt(1, 4) + " " + x.moment());
        change("put b 1;");
        due("1 0", "it stays", () -> x.tableAt(0, 4) + " " + x.tableAt(1, 4));

        edge("section 1", "Runs that are open are not touched by it");
        x.table(1);
        x.fill(0, 5, 0, 1, 100, false);
        ask("from a take v0;");
        x.open(0, 1, 2, 64);
        x.step(0, 3);
        change("drop a where 0<v;");
        x.sweep(0);
        runOn(0);
        due("0|1|2|3|4", "the answer of before", () -> given(0, 1));
        due("0 5 5 1 0|6 5 5 3 0|7 5 5 3 0", "the tasks of before", () -> tasks(0));

        edge("promise 9", "IndexOutOfBoundsException if there is no such table");
        refused(BOUNDS, "no table at all", () -> x.sweep(0));
        x.table(1);
        refused(BOUNDS, "table 1", () -> x.sweep(1));
        refused(BOUNDS, "table -1", () -> x.sweep(-1));
        refused(BOUNDS, "table of the least int", () -> x.sweep(LEAST_INT));
        refused(BOUNDS, "table of the greatest int", () -> x.sweep(GREATEST_INT));
    }

    private static void whatIsToldOfTables() {
        edge("promise 11", "0 its columns, 1 its versions, 2 those that are alive, 3 its zones, 4 its SINCE");
        x.table(4);
        due("4 0 0 0 0", "an empty one", () -> tableAt(0));
        x.fill(0, 16, 0, 1, 100, false);
        due("4 16 16 1 0", "a whole zone", () -> tableAt(0));
        x.fill(0, 1, 90, 1, 100, false);
        due("4 17 17 2 0", "one more", () -> tableAt(0));
        change("drop a where v=90;");
        due("4 17 16 2 0", "a dead one", () -> tableAt(0));
        x.sweep(0);
        due("4 16 16 1 3", "swept", () -> tableAt(0));

        edge("promise 11", "IllegalArgumentException if what is out of range");
        refused(BOUNDS, "no table at all", () -> x.tableAt(0, 0));
        x.table(1);
        refused(ARGUMENT, "what -1", () -> x.tableAt(0, -1));
        refused(ARGUMENT, "what 5", () -> x.tableAt(0, 5));
        refused(ARGUMENT, "what of the least int", () -> x.tableAt(0, LEAST_INT));
        refused(ARGUMENT, "what of the greatest int", () -> x.tableAt(0, GREATEST_INT));
        refused(BOUNDS, "table 1", () -> x.tableAt(1, 0));
        refused(BOUNDS, "table -1, what 5", () -> x.tableAt(-1, 5));
    }

    private static void livesAndValues() {
        edge("promise 12", "Returns the moment at which a version was born, or died; NONE if it did not die");
        x.table(1);
        change("put a 4;");
        change("put a 5;");
        change("set a v=6 where v=4;");
        due("1 3|2 -1|3 -1", "born and died", () -> lives(0));
        refused(BOUNDS, "place 3", () -> x.lived(0, 3, true));
        refused(BOUNDS, "place -1", () -> x.lived(0, -1, false));
        refused(BOUNDS, "place 128", () -> x.lived(0, 128, false));
        refused(BOUNDS, "place of the least int", () -> x.lived(0, LEAST_INT, false));
        refused(BOUNDS, "place of the greatest int", () -> x.lived(0, GREATEST_INT, false));
        refused(BOUNDS, "table 1", () -> x.lived(1, 0, true));
        refused(BOUNDS, "table -1", () -> x.lived(-1, 0, true));

        edge("promise 13", "IndexOutOfBoundsException if there is no such table, place or column");
        x.table(2);
        x.table(5);
        change("put a lack,6;");
        due("true false", "lacks", () -> x.lacks(0, 0, 0) + " " + x.lacks(0, 0, 1));
        refused(BOUNDS, "column 2", () -> x.lacks(0, 0, 2));
        refused(BOUNDS, "column -1", () -> x.lacks(0, 0, -1));
        refused(BOUNDS, "column of the least int", () -> x.lacks(0, 0, LEAST_INT));
        refused(BOUNDS, "column of the greatest int", () -> x.lacks(0, 0, GREATEST_INT));
        refused(BOUNDS, "place 1", () -> x.lacks(0, 1, 0));
        refused(BOUNDS, "place -1", () -> x.lacks(0, -1, 0));
        refused(BOUNDS, "a table without versions", () -> x.lacks(1, 0, 0));
        refused(BOUNDS, "table 2", () -> x.lacks(2, 0, 0));
        refused(BOUNDS, "table -1", () -> x.lacks(-1, 0, 0));

        edge("promise 14", "Returns the value; 0 if it is LACKING");
        x.table(2);
        x.table(5);
        change("put a lack,6;");
        change("set a w=v+1;");
        due("0 6 0 0", "value", () -> x.value(0, 0, 0) + " " + x.value(0, 0, 1) + " " + x.value(0, 1, 0) + " " + x.value(0, 1, 1));
        refused(BOUNDS, "column 2", () -> x.value(0, 0, 2));
        refused(BOUNDS, "column -1", () -> x.value(0, 0, -1));
        refused(BOUNDS, "place 2", () -> x.value(0, 2, 0));
        refused(BOUNDS, "place of the greatest int", () -> x.value(0, GREATEST_INT, 0));
        refused(BOUNDS, "place of the least int", () -> x.value(0, LEAST_INT, 0));
        refused(BOUNDS, "a table without versions", () -> x.value(1, 0, 0));
        refused(BOUNDS, "table 2", () -> x.value(2, 0, 0));
        refused(BOUNDS, "table -1", () -> x.value(-1, 0, 0));
        x.sweep(0);
        refused(BOUNDS, "a place that was swept", () -> x.value(0, 1, 0));
    }

    // ---- zones

    private static void zones() {
        edge("section 2", "The versions at the places 16 * k to 16 * k + 15 are the ZONE k; the last one can have fewer");
        x.table(1);
        refused(BOUNDS, "no zone without versions", () -> x.sizeOf(0, 0, 0, 0));
        for (int i = 0; i < 4; i++) {
            x.fill(0, 11, 11 * i, 1, 1000, false);
        }
        due("1024 1024 768", "PLAIN of 16, 16 and 12", () -> x.sizeOf(0, 0, 0, 0) + " " + x.sizeOf(0, 0, 1, 0) + " " + x.sizeOf(0, 0, 2, 0));
        due("0 15", "the zone 0", () -> x.bound(0, 0, 0, false) + " " + x.bound(0, 0, 0, true));
        due("16 31", "the zone 1", () -> x.bound(0, 0, 1, false) + " " + x.bound(0, 0, 1, true));
        due("32 43", "the zone 2", () -> x.bound(0, 0, 2, false) + " " + x.bound(0, 0, 2, true));
        refused(BOUNDS, "the zone 3", () -> x.sizeOf(0, 0, 3, 0));
        x.fill(0, 64, 44, 1, 1000, false);
        x.fill(0, 20, 108, 1, 1000, false);
        due(8, "128 versions", () -> x.tableAt(0, 3));
        due("112 127", "the zone 7", () -> x.bound(0, 0, 7, false) + " " + x.bound(0, 0, 7, true));
        refused(BOUNDS, "the zone 8", () -> x.bound(0, 0, 8, true));
        change("drop a where v<20;");
        due(8, "dead ones have their places", () -> x.tableAt(0, 3));
        due("0 15", "the zone 0 of dead ones", () -> x.bound(0, 0, 0, false) + " " + x.bound(0, 0, 0, true));
        x.sweep(0);
        due("7 20 35", "moved up", () -> x.tableAt(0, 3) + " " + x.bound(0, 0, 0, false) + " " + x.bound(0, 0, 0, true));
        due("116 127 768", "the last one", () -> x.bound(0, 0, 6, false) + " " + x.bound(0, 0, 6, true) + " " + x.sizeOf(0, 0, 6, 0));
    }

    /** A table with one column and one zone of these values, ? for LACKING; the sizes by the five ways, in order. */
    private static void sized(String values, String want, int way) {
        x = new Columnworks();
        x.table(1);
        for (String value : values.split(" ")) {
            boolean isShort = value.length() < 10;
            change(value.equals("?") ? "put a lack;" : isShort ? "put a " + value + ";" : "put a 1;");
            if (!isShort) {
                change("set a v=" + (value.startsWith("-") ? LEAST_LONG : GREATEST_LONG) + " where v=1;");
                x.sweep(0);
            }
        }
        due(want, "the sizes of " + values, () -> sizes(0, 0, 0));
        due(way, "the way of " + values, () -> x.wayOf(0, 0, 0));
        due(0, "errors()", () -> x.errors());
    }

    private static void plainAndRuns() {
        edge("section 2", "PLAIN: M and 64 * g; M is n if some of them lack a value, otherwise 0");
        sized("1", "64 70 64 70 134", 0);
        sized("?", "1 70 1 1 1", 0);
        sized("? ?", "2 70 2 2 2", 0);
        sized("1 ?", "66 140 66 72 136", 0);
        sized("? 1", "66 140 66 72 136", 0);
        sized("0", "64 70 64 70 134", 0);
        edge("section 2", "RUNS: 70 for each stretch, as long as possible, of like values (LACKING is like LACKING)");
        sized("5 5 5", "192 70 64 70 134", 2);
        sized("0 ? 0", "131 210 67 73 137", 2);
        sized("? 0 ?", "67 210 67 73 137", 0);
        sized("0 ? ? 0", "132 210 68 74 138", 2);
        sized("1 2 2 1 1", "320 210 133 75 142", 3);
        sized("? ? ? ? ? ? ? ? ? ? ? ? ? ? ? ?", "16 70 16 16 16", 0);
    }

    private static void lists() {
        edge("section 2", "LIST: M, and 64 * d, and g * B(d - 1), where d is the number of unlike values; M if g is 0");
        sized("7 7", "128 70 64 70 134", 2);
        sized("7 8", "128 140 130 72 134", 3);
        sized("7 8 9", "192 210 198 76 134", 3);
        sized("7 8 9 10", "256 280 264 78 134", 3);
        sized("7 8 9 10 11", "320 350 335 85 134", 3);
        // 0 and the least long: B(1) is 1, B of their difference 64
        sized("0 -9223372036854775808 0 0", "256 210 132 326 326", 2);
        sized("7 ? 7 ?", "132 280 68 74 138", 2);
        sized("? ? ?", "3 70 3 3 3", 0);
    }

    private static void frames() {
        edge("section 2", "FRAME: M, and 70, and g * B(greatest value less the least one); B(0) is 0; without a sign");
        sized("3 3 4", "192 140 131 73 136", 3);
        sized("3 5 4", "192 210 198 76 138", 3);
        sized("0 255", "128 140 130 86 134", 3);
        sized("0 256", "128 140 130 88 134", 3);
        sized("-1 0", "128 140 130 72 134", 3);
        sized("-128 127", "128 140 130 86 134", 3);
        sized("9223372036854775807 -9223372036854775808", "128 140 130 198 134", 0);
        sized("0 9223372036854775807", "128 140 130 196 134", 0);
        sized("0 -9223372036854775808", "128 140 130 198 134", 0);
        sized("-1 9223372036854775807", "128 140 130 198 134", 0);
    }

    private static void steps() {
        edge("section 2", "STEPS: M and 134 if g is 1; M if g is 0; a step being a value less the one ahead of it, of those that are there");
        sized("4 ? ? ?", "68 140 68 74 138", 0);
        sized("1 ? 4 ? 7", "197 350 203 84 139", 3);
        sized("0 100 200 300 400 500 600 700 800 900", "640 700 680 170 134", 4);
        sized("0 100 200 300 400 500 600 700 800 901", "640 700 680 170 143", 4);
        sized("0 100 200 ? 300 400 500 600 700 800", "586 700 622 170 144", 4);
        edge("section 2", "Differences go round; steps are compared as longs");
        // the only step is -1, going round
        sized("-9223372036854775808 9223372036854775807", "128 140 130 198 134", 0);
        // the steps 1 and -1, going round
        sized("9223372036854775807 -9223372036854775808 9223372036854775807", "192 210 131 262 138", 2);
        // a step of the least long and one of the greatest: their difference is -1, of 64 digits
        sized("0 -9223372036854775808 -1", "192 210 198 262 262", 0);
        // the steps -1 and 1: taken without a sign the least one would be 1
        sized("5 4 5", "192 210 131 73 138", 3);
    }

    private static void leastSize() {
        edge("section 2", "A zone is packed in the way of least size, of several the one with the lowest number");
        x.table(1);
        x.fill(0, 16, 10, 1, 100, false);
        due("1024 1120 1088 134 134", "FRAME is as small as STEPS", () -> sizes(0, 0, 0));
        due(3, "the lower one", () -> x.wayOf(0, 0, 0));
        sized("7", "64 70 64 70 134", 0);
        // RUNS is as small as FRAME
        sized("1 1", "128 70 64 70 134", 2);
        x.fill(0, 14, 0, 0, 1, false);
        due("1024 140 144 86 149", "FRAME", () -> sizes(0, 0, 0));
        edge("section 2", "RUNS is the least one");
        x.table(1);
        change("put a 1;");
        change("put a 1;");
        for (int i = 0; i < 14; i++) {
            change("put a 'zzzzzzzz';");
        }
        // the greatest value less the least one has 39 digits
        due("1024 140 144 694 719", "two stretches of unlike values", () -> sizes(0, 0, 0));
        due(1, "RUNS", () -> x.wayOf(0, 0, 0));
    }

    private static void packing() {
        edge("promise 15", "Tells a way for a column; its zones are packed so from then on; NONE for the least size");
        x.table(2);
        x.fill(0, 20, 0, 1, 100, false);
        due("3 3", "by themselves", () -> x.wayOf(0, 0, 0) + " " + x.wayOf(0, 0, 1));
        for (int i = 0; i < 5; i++) {
            int way = i;
            due(way - 1, "the way told before", () -> x.pack(0, 0, way));
            due(way + " " + way, "all zones", () -> x.wayOf(0, 0, 0) + " " + x.wayOf(0, 0, 1));
        }
        due("3 3", "the other column is not", () -> x.wayOf(0, 1, 0) + " " + x.wayOf(0, 1, 1));
        x.fill(0, 20, 0, 1, 100, false);
        due(4, "a zone that came later", () -> x.wayOf(0, 0, 2));
        due(4, "NONE", () -> x.pack(0, 0, -1));
        due(-1, "NONE again", () -> x.pack(0, 0, -1));
        due(3, "by itself", () -> x.wayOf(0, 0, 0));
        due(0, "errors()", () -> x.errors());
        edge("promise 15", "its zones are packed so from then on: an empty table");
        x.table(1);
        due(-1, "ahead of the first version", () -> x.pack(0, 0, 4));
        change("put a 1;");
        due("4 134.0", "told", () -> x.wayOf(0, 0, 0) + " " + x.meanSize(0));
        x.sweep(0);
        due(4, "sweep() changes no way", () -> x.pack(0, 0, 4));
        edge("promise 15", "IllegalArgumentException if way is out of range");
        refused(BOUNDS, "no table at all", () -> x.pack(0, 0, 0));
        x.table(2);
        refused(ARGUMENT, "way 5", () -> x.pack(0, 0, 5));
        refused(ARGUMENT, "way -2", () -> x.pack(0, 0, -2));
        refused(ARGUMENT, "way of the least int", () -> x.pack(0, 1, LEAST_INT));
        refused(ARGUMENT, "way of the greatest int", () -> x.pack(0, 1, GREATEST_INT));
        refused(BOUNDS, "column 2", () -> x.pack(0, 2, 0));
        refused(BOUNDS, "column -1, way 5", () -> x.pack(0, -1, 5));
        refused(BOUNDS, "table 1", () -> x.pack(1, 0, 0));
        refused(BOUNDS, "table -1, way -2", () -> x.pack(-1, 0, -2));
        due(-1, "nothing was told", () -> x.pack(0, 0, 2));
    }

    private static void sizesRefused() {
        edge("promise 16", "IndexOutOfBoundsException if there is no such table, column or zone");
        refused(BOUNDS, "no table at all", () -> x.wayOf(0, 0, 0));
        x.table(2);
        refused(BOUNDS, "no versions", () -> x.wayOf(0, 0, 0));
        x.fill(0, 17, 0, 1, 100, false);
        due("3 0", "both zones", () -> x.wayOf(0, 0, 0) + " " + x.wayOf(0, 0, 1));
        refused(BOUNDS, "zone 2", () -> x.wayOf(0, 0, 2));
        refused(BOUNDS, "zone -1", () -> x.wayOf(0, 0, -1));
        refused(BOUNDS, "zone of the least int", () -> x.wayOf(0, 0, LEAST_INT));
        refused(BOUNDS, "zone of the greatest int", () -> x.wayOf(0, 0, GREATEST_INT));
        refused(BOUNDS, "column 2", () -> x.wayOf(0, 2, 0));
        refused(BOUNDS, "column -1", () -> x.wayOf(0, -1, 0));
        refused(BOUNDS, "table 1", () -> x.wayOf(1, 0, 0));
        refused(BOUNDS, "table -1", () -> x.wayOf(-1, 0, 0));
        edge("promise 17", "IndexOutOfBoundsException, then IllegalArgumentException if way is out of range");
        refused(BOUNDS, "no table at all", () -> x.sizeOf(0, 0, 0, 9));
        x.table(2);
        x.fill(0, 17, 0, 1, 100, false);
        due("64 70 64 70 134", "all ways", () -> sizes(0, 0, 1));
        refused(ARGUMENT, "way 5", () -> x.sizeOf(0, 0, 0, 5));
        refused(ARGUMENT, "way -1", () -> x.sizeOf(0, 0, 1, -1));
        refused(ARGUMENT, "way of the least int", () -> x.sizeOf(0, 0, 1, LEAST_INT));
        refused(ARGUMENT, "way of the greatest int", () -> x.sizeOf(0, 0, 1, GREATEST_INT));
        refused(BOUNDS, "zone 2", () -> x.sizeOf(0, 0, 2, 0));
        refused(BOUNDS, "zone -1, way 5", () -> x.sizeOf(0, 0, -1, 5));
        refused(BOUNDS, "zone of the greatest int", () -> x.sizeOf(0, 0, GREATEST_INT, 5));
        refused(BOUNDS, "column 2, way -1", () -> x.sizeOf(0, 2, 0, -1));
        refused(BOUNDS, "column -1", () -> x.sizeOf(0, -1, 0, 0));
        refused(BOUNDS, "table 1", () -> x.sizeOf(1, 0, 0, 0));
        refused(BOUNDS, "table -1, way 5", () -> x.sizeOf(-1, 0, 0, 5));
    }

    private static void bounds() {
        edge("promise 18", "NoSuchElementException if all are LACKING");
        refused(BOUNDS, "no table at all", () -> x.bound(0, 0, 0, true));
        x.table(2);
        refused(BOUNDS, "no versions", () -> x.bound(0, 0, 0, false));
        change("put a lack,-3;");
        refused(NONE_SUCH, "the least one", () -> x.bound(0, 0, 0, false));
        refused(NONE_SUCH, "the greatest one", () -> x.bound(0, 0, 0, true));
        due("-3 -3", "one value", () -> x.bound(0, 1, 0, false) + " " + x.bound(0, 1, 0, true));
        change("put a 0,lack;");
        change("put a -8,4;");
        due("-8 0 -3 4", "LACKING ones do not count", () -> x.bound(0, 0, 0, false) + " " + x.bound(0, 0, 0, true) + " "
                + x.bound(0, 1, 0, false) + " " + x.bound(0, 1, 0, true));
        change("drop a;");
        due("-8 0", "dead ones count", () -> x.bound(0, 0, 0, false) + " " + x.bound(0, 0, 0, true));
        change("set a v=1;");
        refused(BOUNDS, "zone 1", () -> x.bound(0, 0, 1, true));
        refused(BOUNDS, "zone -1", () -> x.bound(0, 0, -1, true));
        refused(BOUNDS, "zone of the least int", () -> x.bound(0, 0, LEAST_INT, true));
        refused(BOUNDS, "column 2", () -> x.bound(0, 2, 0, true));
        refused(BOUNDS, "column -1", () -> x.bound(0, -1, 0, true));
        refused(BOUNDS, "table 1", () -> x.bound(1, 0, 0, true));
        refused(BOUNDS, "table -1", () -> x.bound(-1, 0, 0, true));
        x = new Columnworks();
        x.table(1);
        x.fill(0, 2, 0, 1, 10, false);
        change("set a v=" + LEAST_LONG + " where v=0;");
        change("set a v=" + GREATEST_LONG + " where v=1;");
        due(Long.MIN_VALUE + " " + Long.MAX_VALUE, "the least and the greatest long", () -> x.bound(0, 0, 0, false) + " " + x.bound(0, 0, 0, true));
    }

    private static void tallies() {
        edge("section 6", "A column has a TALLY, 10 at first: tally() makes it the number of unlike values (LACKING is none) of the versions that are alive");
        x.table(3);
        due("10 10 10", "at first", () -> x.tallied(0, 0) + " " + x.tallied(0, 1) + " " + x.tallied(0, 2));
        due(0, "without versions", () -> x.tally(0));
        due("0 0 0", "without versions", () -> x.tallied(0, 0) + " " + x.tallied(0, 1) + " " + x.tallied(0, 2));
        change("put a 1,lack,5;");
        change("put a 2,lack,5;");
        change("put a 1,0,5;");
        due("0 0 0", "it stays until it is tallied again", () -> x.tallied(0, 0) + " " + x.tallied(0, 1) + " " + x.tallied(0, 2));
        due(4, "the sum", () -> x.tally(0));
        due("2 1 1", "unlike values, 0 is one", () -> x.tallied(0, 0) + " " + x.tallied(0, 1) + " " + x.tallied(0, 2));
        change("drop a where w=0;");
        due(3, "of those that are alive", () -> x.tally(0));
        due("2 0 1", "LACKING is none", () -> x.tallied(0, 0) + " " + x.tallied(0, 1) + " " + x.tallied(0, 2));
        change("drop a;");
        due(0, "none is alive", () -> x.tally(0));
        x.fill(0, 64, 0, 1, 1000, false);
        x.fill(0, 61, 64, 1, 1000, false);
        due(375 - tooFew(), "125 versions", () -> x.tally(0));
        due(125, "125 versions", () -> x.tallied(0, 0));
        edge("section 6", "A column has a TALLY: all five columns");
        x.table(5);
        due("10 10", "the last ones, at first", () -> x.tallied(0, 3) + " " + x.tallied(0, 4));
        change("put a 1,lack,3,4,lack;");
        change("put a 1,lack,4,4,6;");
        due(5, "the sum", () -> x.tally(0));
        due("1 0 2 1 1", "each of them", () -> x.tallied(0, 0) + " " + x.tallied(0, 1) + " " + x.tallied(0, 2) + " " + x.tallied(0, 3) + " " + x.tallied(0, 4));
        edge("promise 19", "IndexOutOfBoundsException if there is no such table");
        refused(BOUNDS, "no table at all", () -> x.tally(0));
        x.table(1);
        refused(BOUNDS, "table 1", () -> x.tally(1));
        refused(BOUNDS, "table -1", () -> x.tally(-1));
        refused(BOUNDS, "table of the greatest int", () -> x.tally(GREATEST_INT));
        edge("promise 20", "IndexOutOfBoundsException if there is no such table or column");
        refused(BOUNDS, "no table at all", () -> x.tallied(0, 0));
        x.table(2);
        refused(BOUNDS, "column 2", () -> x.tallied(0, 2));
        refused(BOUNDS, "column -1", () -> x.tallied(0, -1));
        refused(BOUNDS, "column of the least int", () -> x.tallied(0, LEAST_INT));
        refused(BOUNDS, "table 1", () -> x.tallied(1, 0));
        refused(BOUNDS, "table -1", () -> x.tallied(-1, 0));
    }

    /** How many of the 2 * 125 values that are put in the columns 1 and 2 above are like another one of the column. */
    private static int tooFew() {
        int few = 0;
        for (int j = 1; j < 3; j++) {
            java.util.Set<Long> unlike = new java.util.HashSet<>();
            for (int i = 0; i < 64; i++) {
                unlike.add((i + (long) j * i * i) % 1000);
            }
            for (int i = 0; i < 61; i++) {
                unlike.add((64 + i + (long) j * i * i) % 1000);
            }
            few += 125 - unlike.size();
        }
        return few;
    }

    private static void meanSizes() {
        edge("promise 51", "0.0 without versions");
        refused(BOUNDS, "no table at all", () -> x.meanSize(0));
        x.table(2);
        due(0.0, "without versions", () -> x.meanSize(0));
        change("put a 1,lack;");
        due(65.0 / 2.0, "one version", () -> x.meanSize(0));
        x.pack(0, 1, 4);
        due(65.0 / 2.0, "by the ways in which they are packed", () -> x.meanSize(0));
        x.pack(0, 1, 1);
        due(134.0 / 2.0, "by the ways in which they are packed", () -> x.meanSize(0));
        change("drop a;");
        due(134.0 / 2.0, "dead ones are versions, too", () -> x.meanSize(0));
        x.sweep(0);
        due(0.0, "without versions again", () -> x.meanSize(0));
        refused(BOUNDS, "table 1", () -> x.meanSize(1));
        refused(BOUNDS, "table -1", () -> x.meanSize(-1));
        refused(BOUNDS, "table of the least int", () -> x.meanSize(LEAST_INT));
        edge("promise 51", "the sizes of all zones of all columns together, divided by the number of versions times that of columns");
        x.table(1);
        x.fill(0, 19, 0, 1, 100, false);
        // 70 and 16 * 4, then 70 and 3 * 2
        due((134.0 + 76.0) / 19.0, "two zones", () -> x.meanSize(0));
    }
}
