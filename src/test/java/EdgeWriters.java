import java.lang.reflect.Array;

/** Boundary cases of writers, and of the theorem: section 10 and the promises 46 to 50 and 54. */
public final class EdgeWriters extends Edges {
    public static void main(String[] args) {
        beginning();
        views();
        viewsOfLaterTables();
        writing();
        writingRefused();
        fullViews();
        overtaken();
        strictOnes();
        strictThoughNothing();
        comingThrough();
        fullTables();
        givingUp();
        sweptViews();
        finishingRefused();
        whatIsTold();
        viewRefused();
        theorem();
        brokenTheorem();
        exceptionsInOrder();
        finish();
    }

    private static void beginning() {
        edge("promise 46", "Begins a WRITER; its START is the MOMENT; IllegalStateException if there were 12");
        for (int i = 0; i < 12; i++) {
            int number = i;
            due(number, "its number", () -> x.begin(number % 2 == 0));
        }
        refused(STATE, "the 13th", () -> x.begin(false));
        refused(STATE, "the 13th, STRICT", () -> x.begin(true));
        x.finish(0, true);
        x.finish(1, false);
        refused(STATE, "those that are not OPEN count", () -> x.begin(false));
        edge("section 10", "A WRITER begins at a moment, its START");
        x.table(1);
        x.begin(false);
        change("put a 1;");
        x.begin(true);
        due("0 0 0 0|0 1 0 0", "at 0 and at 1", () -> writerAt(0) + "|" + writerAt(1));
    }

    private static void views() {
        edge("section 10", "VIEW: the versions that are alive as of its START, by their places, without those that it ended, and behind them those that it put");
        x.table(2);
        x.begin(false);
        x.fill(0, 4, 0, 1, 100, false);
        change("drop a where v=1;");
        x.begin(false);
        change("put a 9,9;");
        change("drop a where v=0;");
        due("", "as of 0", () -> viewed(0, 0));
        due("0 0|2 6|3 12", "as of 2: what died or was born behind is not seen", () -> viewed(1, 0));
        due(1, "put", () -> write(1, "put a 7,7;"));
        due("0 0|2 6|3 12|7 7", "behind them", () -> viewed(1, 0));
        due(2, "set", () -> write(1, "set a w=1 where v=0 or v=7;"));
        due("2 6|3 12|0 1|7 1", "those that it put, in the order in which it put them", () -> viewed(1, 0));
        due(1, "drop", () -> write(1, "drop a where v=0;"));
        due("2 6|3 12|7 1", "without those that it ended", () -> viewed(1, 0));
        due(3, "drop all", () -> write(1, "drop a;"));
        due("", "nothing", () -> viewed(1, 0));
        due("0 2 3 0", "what it ended and put", () -> writerAt(1));
        due("0 0 4", "nobody else sees it", () -> viewed(0, 0).length() + " " + x.rows(ask("from a where v0=7 take v0;"), 4) + " " + x.moment());
        edge("section 10", "What it does it does to its view alone, as a change does to a table");
        x.table(1);
        change("put a 1;");
        change("put a 2;");
        x.begin(false);
        due(2, "a set whose test is so for what it puts, too", () -> write(0, "set a v=v+1 where v<4;"));
        due("2|3", "once", () -> viewed(0, 0));
        due(1, "a set to LACKING", () -> write(0, "set a v=1/0 where v=2;"));
        due("3|0", "0 if the value is LACKING", () -> viewed(0, 0));
        due(1, "lacks", () -> write(0, "drop a where lacks v;"));
        due("3", "without it", () -> viewed(0, 0));
        due("1|2 2", "the table", () -> versions(0) + " " + x.moment());
        due(0, "of none", () -> write(0, "set a v=1 where v=99;"));
        due(0, "of none", () -> write(0, "drop a where v=99;"));
    }

    private static void viewsOfLaterTables() {
        edge("section 10", "(Of a table made behind its START none is alive then.)");
        x.begin(false);
        refused(BOUNDS, "no table yet", () -> x.view(0, 0, -1, 0));
        type("put a 1;");
        refused(ARGUMENT, "no table yet", () -> x.write(0));
        x.table(1);
        due(1, "now there is one", () -> x.write(0));
        change("put a 5;");
        due("1", "its view", () -> viewed(0, 0));
        due(1, "THROUGH", () -> x.finish(0, false));
        due("5|1", "the table", () -> versions(0));
        edge("section 10", "a table made at its START, but behind begin()");
        x.table(1);
        change("put a 1;");
        x.begin(true);
        x.table(2);
        due("1 0", "none is alive", () -> viewed(0, 0) + " " + x.view(0, 1, -1, 0));
        write(0, "put b 3,4;");
        write(0, "set b v=v+w;");
        due("7 4", "its own", () -> viewed(0, 1));
        due("0 1 0 1", "put and not ended", () -> writerAt(0));
        due(1, "THROUGH", () -> x.finish(0, false));
        due("7 4|1 2 -1", "one put", () -> versions(1) + "|" + x.lived(0, 0, false) + " " + lives(1));
    }

    private static void writing() {
        edge("promise 47", "Returns how many versions it ended, or, of put, 1. Empties the text");
        x.table(1);
        x.fill(0, 3, 0, 1, 100, false);
        x.begin(false);
        due(1, "put", () -> write(0, "put a 7;"));
        due(0, "the text is emptied", () -> x.type(0));
        due(4, "set, also of the one that it put", () -> write(0, "set a v=v+1;"));
        due(0, "the text is emptied", () -> x.type(0));
        due(1, "drop of one that it put", () -> write(0, "drop a where v=8;"));
        due(0, "drop of none", () -> write(0, "drop a where v=8;"));
        due("0 1 3 3", "alive as of its START, put and not ended", () -> writerAt(0));
        due(1, "no change", () -> x.moment());
        due("0|1|2", "the table stays", () -> versions(0));
    }

    private static void writingRefused() {
        edge("promise 47", "IndexOutOfBoundsException, IllegalArgumentException if the text has a fault, or is a question, IllegalStateException, in this order");
        type("drop a;");
        refused(BOUNDS, "no writer at all", () -> x.write(0));
        x.begin(false);
        refused(ARGUMENT, "no table: a fault", () -> x.write(0));
        x.table(1);
        due(0, "the text had stayed", () -> x.write(0));
        refused(ARGUMENT, "an empty text", () -> x.write(0));
        type("from a take v0;");
        refused(ARGUMENT, "a question", () -> x.write(0));
        text("put a 1,2;");
        refused(ARGUMENT, "a fault of kind 2", () -> x.write(0));
        text("put a 1");
        refused(ARGUMENT, "a fault of kind 1", () -> x.write(0));
        refused(BOUNDS, "writer 1, and a fault", () -> x.write(1));
        refused(BOUNDS, "writer -1", () -> x.write(-1));
        refused(BOUNDS, "writer of the greatest int", () -> x.write(GREATEST_INT));
        refused(BOUNDS, "writer of the least int", () -> x.write(LEAST_INT));
        x.finish(0, true);
        refused(ARGUMENT, "a fault, and given up", () -> x.write(0));
        text("put a 1;");
        refused(STATE, "given up", () -> x.write(0));
        x.begin(false);
        x.finish(1, false);
        refused(STATE, "THROUGH", () -> x.write(1));
        x.begin(true);
        due(1, "the text had stayed", () -> x.write(2));
    }

    private static void fullViews() {
        edge("promise 47", "IllegalStateException if its view of the table would have more than 128 versions");
        x.table(1);
        x.fill(0, 64, 0, 1, 1000, false);
        x.fill(0, 62, 64, 1, 1000, false);
        x.begin(false);
        write(0, "put a 901;");
        due(1, "the 128th", () -> write(0, "put a 902;"));
        text("put a 903;");
        refused(STATE, "the 129th", () -> x.write(0));
        x.begin(false);
        due(1, "another writer's view has 126: the text had stayed", () -> x.write(1));
        due(128, "a set needs no room: those that it ends are not in it", () -> write(0, "set a v=v+1;"));
        due("128 0 2 126 128", "128", () -> x.view(0, 0, -1, 0) + " " + writerAt(0));
        text("put a 903;");
        refused(STATE, "the 129th", () -> x.write(0));
        due(1, "one less", () -> write(0, "drop a where v=1;"));
        due(1, "one more", () -> write(0, "put a 903;"));
        text("put a 904;");
        refused(STATE, "the 129th", () -> x.write(0));
        x.finish(0, true);
        refused(STATE, "not OPEN", () -> x.write(0));
        due(0, "errors()", () -> x.errors());
        edge("promise 47", "dead versions of the table need no room in the view");
        x.table(1);
        x.fill(0, 64, 0, 0, 1, false);
        x.fill(0, 64, 0, 0, 1, false);
        change("drop a;");
        x.begin(false);
        due(1, "put", () -> write(0, "put a 1;"));
        refused(STATE, "the table has no room", () -> x.finish(0, false));
        x.sweep(0);
        due(1, "now it has", () -> x.finish(0, false));
    }

    private static void overtaken() {
        for (boolean isStrict : new boolean[] {false, true}) {
            edge("section 10", "it is REFUSED (2), if a version which it ended, of those alive as of its START, has died since");
            x.table(1);
            x.fill(0, 3, 0, 1, 100, false);
            x.begin(isStrict);
            write(0, "drop a where v=1;");
            write(0, "put a 9;");
            change("drop a where v=1;");
            due("2 2", "dropped by a change", () -> x.finish(0, false) + " " + x.moment());
            due("1 3 2 1 0|2 1 1 1", "nothing of it is done", () -> tableAt(0) + "|" + writerAt(0));
            x.begin(isStrict);
            write(1, "set a v=7 where v=2;");
            change("set a v=2 where v=2;");
            due(2, "set by a change, also to the same value", () -> x.finish(1, false));
            x.begin(isStrict);
            x.begin(isStrict);
            write(2, "drop a where v=0;");
            write(3, "drop a where v=0;");
            due("1 2", "the first one comes THROUGH, the second one not", () -> x.finish(2, false) + " " + x.finish(3, false));
            x.begin(isStrict);
            write(4, "drop a where v=2;");
            change("drop a where v=2;");
            x.sweep(0);
            due(2, "dead and swept", () -> x.finish(4, false));
            due(0, "errors()", () -> x.errors());
        }
        edge("section 10", "a version that it did not end has died since");
        x.table(1);
        x.fill(0, 3, 0, 1, 100, false);
        x.begin(false);
        x.begin(true);
        write(0, "set a v=v where v=1;");
        write(1, "set a v=v where v=2;");
        change("drop a where v=0;");
        due("1 1", "THROUGH", () -> x.finish(0, false) + " " + x.finish(1, false));
        due("0|1|2|1|2", "both", () -> versions(0));
    }

    private static void strictOnes() {
        edge("section 10", "STRICT: done anew to the tables as they are, it would end other ones of the versions that are alive as of the MOMENT");
        x.table(2);
        x.fill(0, 3, 0, 1, 100, false);
        x.begin(true);
        x.begin(false);
        write(0, "drop a where v<2;");
        write(1, "set a w=5 where v=2;");
        change("put a 1,50;");
        due(2, "a new one would be ended by a drop", () -> x.finish(0, false));
        due(1, "one that is not STRICT", () -> x.finish(1, false));
        x.begin(true);
        write(2, "set a w=w+1 where v=1 and w<20;");
        change("put a 1,7;");
        due(2, "a new one would be ended by a set", () -> x.finish(2, false));
        x.begin(true);
        due(0, "nothing was hit", () -> write(3, "drop a where v=77;"));
        change("put a 77,7;");
        due(2, "now it would be", () -> x.finish(3, false));
        x.begin(true);
        write(4, "put a 8,8;");
        write(4, "drop a where v=8;");
        change("put a 8,9;");
        due(2, "what it put and ended does not save it", () -> x.finish(4, false));
        x.begin(true);
        write(5, "drop a where v=2;");
        write(5, "drop a where w=9;");
        change("set a w=9 where v=0;");
        due(2, "a version that was set since", () -> x.finish(5, false));
        edge("section 10", "STRICT: the first version of a table that had none");
        x.table(1);
        x.begin(true);
        write(0, "put a 5;");
        write(0, "set a v=6 where v=5;");
        change("put a 5;");
        due(2, "it would be ended, too", () -> x.finish(0, false));
        due(0, "errors()", () -> x.errors());
    }

    private static void strictThoughNothing() {
        edge("section 10", "STRICT, but what is done anew is the same");
        x.table(2);
        x.fill(0, 3, 0, 1, 100, false);
        x.begin(true);
        due(1, "nothing at all", () -> x.finish(0, false));
        x.begin(true);
        write(1, "put a 5,5;");
        change("put a 5,5;");
        due(1, "put looks at nothing", () -> x.finish(1, false));
        x.begin(true);
        write(2, "drop a where v=1;");
        change("put a 6,6;");
        change("drop a where v=2;");
        due(1, "others were born and died", () -> x.finish(2, false));
        x.begin(true);
        write(3, "drop a where v=88;");
        change("put a 88,0;");
        change("drop a where v=88;");
        due(1, "a new one that is dead again", () -> x.finish(3, false));
        x.begin(true);
        write(4, "set a w=w+1 where v=5;");
        write(4, "set a v=7 where w=6;");
        change("put a 9,7;");
        due(1, "neither test is so for the new one", () -> x.finish(4, false));
        due("7 6|7 6", "two were put", () -> version(0, x.tableAt(0, 1) - 2) + "|" + version(0, x.tableAt(0, 1) - 1));
        x.begin(true);
        write(5, "drop a where v=0;");
        x.table(2);
        x.fill(1, 3, 0, 1, 100, false);
        due(1, "another table", () -> x.finish(5, false));
        edge("section 10", "(without the bound of 128)");
        x.table(1);
        x.fill(0, 64, 0, 1, 1000, false);
        x.begin(true);
        write(0, "set a v=v+1000;");
        write(0, "set a v=v+1000;");
        write(0, "set a v=v+1000;");
        write(0, "drop a where v<3064;");
        change("put a 'a';");
        due(2, "the set without a test would end the new one", () -> x.finish(0, false));
        x.begin(true);
        write(1, "set a v=v+1000 where v<1000;");
        write(1, "set a v=v-1000 where v<'a';");
        write(1, "drop a where 31<v and v<'a';");
        change("put a 'b';");
        due("1 98 34", "three times 64 versions, but 32 that stay", () -> x.finish(1, false) + " " + x.tableAt(0, 1) + " " + x.tableAt(0, 2));
        x.begin(true);
        write(2, "drop a where v=5000;");
        x.fill(0, 30, 0, 1, 1000, false);
        due("1 128 64", "a table of 128 versions", () -> x.finish(2, false) + " " + x.tableAt(0, 1) + " " + x.tableAt(0, 2));
        x.begin(true);
        write(3, "set a v=v+1 where v=29;");
        due("64 30 30", "two had 29", () -> x.view(3, 0, -1, 0) + " " + x.view(3, 0, 62, 0) + " " + x.view(3, 0, 63, 0));
        change("drop a where v=7;");
        refused(STATE, "two more than 128", () -> x.finish(3, false));
        change("drop a where v=29;");
        due(2, "those that it ended died", () -> x.finish(3, false));
    }

    private static void comingThrough() {
        edge("section 10", "by one change (also if it ended and put none)");
        x.table(1);
        x.table(1);
        x.fill(0, 3, 0, 1, 100, false);
        x.fill(1, 2, 0, 1, 100, false);
        x.begin(false);
        due("1 3", "nothing", () -> x.finish(0, false) + " " + x.moment());
        edge("section 10", "of the tables by their numbers, the versions that it ended die, then those that it put and did not end are put behind the last one");
        x.table(1);
        x.table(1);
        x.index(0, 0);
        x.index(1, 0);
        x.fill(0, 3, 0, 1, 100, false);
        x.fill(1, 2, 0, 1, 100, false);
        x.begin(false);
        write(0, "put b 7;");
        write(0, "drop b where v=0;");
        write(0, "put a lack;");
        write(0, "set a v=v*10 where 0<v;");
        write(0, "drop a where v=20;");
        change("put a 50;");
        due("1 4", "THROUGH, one change", () -> x.finish(0, false) + " " + x.moment());
        due("0|1|2|50|?|10", "a, in the order in which it put them", () -> versions(0));
        due("1 -1|1 4|1 4|3 -1|4 -1|4 -1", "a", () -> lives(0));
        due("0|1|7", "b", () -> versions(1));
        due("2 4|2 -1|4 -1", "b", () -> lives(1));
        due("0 1 2 5 3|0 1 2", "the indexes", () -> entries(0) + "|" + entries(1));
        due("1 2 3 3", "what it ended and put", () -> writerAt(0));
        due(0, "errors()", () -> x.errors());
        edge("section 10", "two that end different ones");
        x.table(1);
        x.fill(0, 3, 0, 1, 100, false);
        x.begin(false);
        x.begin(false);
        write(0, "set a v=v where v=0;");
        write(1, "set a v=v where v=2;");
        due("1 1", "both come THROUGH", () -> x.finish(1, false) + " " + x.finish(0, false));
        due("0|1|2|2|0", "by the order in which they come", () -> versions(0));
        due("1 3|1 -1|1 2|2 -1|3 -1", "by the order in which they come", () -> lives(0));
    }

    private static void fullTables() {
        edge("promise 48", "IllegalStateException if it would come THROUGH and a table would have more than 128 versions");
        x.table(1);
        x.table(1);
        x.fill(0, 64, 0, 1, 1000, false);
        x.fill(0, 62, 64, 1, 1000, false);
        x.begin(false);
        write(0, "put b 1;");
        write(0, "put a 901;");
        write(0, "put a 902;");
        change("put a 903;");
        refused(STATE, "129", () -> x.finish(0, false));
        due("0 0", "still OPEN, and b is empty", () -> x.writerAt(0, 0) + " " + x.tableAt(1, 1));
        due(1, "one less", () -> write(0, "drop a where v=902;"));
        due("1 128 1", "128", () -> x.finish(0, false) + " " + x.tableAt(0, 1) + " " + x.tableAt(1, 1));
        x.begin(false);
        write(1, "set a v=0 where v=5;");
        refused(STATE, "a set of one: 129", () -> x.finish(1, false));
        due(3, "it can be given up", () -> x.finish(1, true));
        x.begin(false);
        write(2, "drop a where v=6;");
        due(1, "a drop needs no room", () -> x.finish(2, false));
        x.begin(false);
        write(3, "set a v=0 where v=7;");
        change("drop a where v=7;");
        due(2, "one that is REFUSED needs none", () -> x.finish(3, false));
        x.begin(true);
        write(4, "put a 1;");
        write(4, "drop b where v=44;");
        change("put b 44;");
        due(2, "nor does one that is REFUSED since it is STRICT", () -> x.finish(4, false));
        x.begin(false);
        due(1, "one that does nothing", () -> x.finish(5, false));
        x.begin(false);
        write(6, "put a 1;");
        write(6, "drop a where v=1;");
        refused(STATE, "not OPEN comes first", () -> x.finish(5, false));
        due("0 1 0", "one that puts and ends the same, and one more", () -> x.writerAt(6, 0) + " " + x.writerAt(6, 2) + " " + x.writerAt(6, 3));
        due(1, "needs no room", () -> x.finish(6, false));
    }

    private static void givingUp() {
        edge("section 10", "An OPEN one (0) can also be given up (3)");
        x.table(1);
        x.fill(0, 3, 0, 1, 100, false);
        x.begin(false);
        write(0, "drop a;");
        write(0, "put a 1;");
        change("drop a where v=1;");
        due("3 2", "no change, and not REFUSED", () -> x.finish(0, true) + " " + x.moment());
        due("0|1|2 2", "the table", () -> versions(0) + " " + x.tableAt(0, 2));
        due("3 1 3 1", "what it ended and put", () -> writerAt(0));
        x.begin(true);
        due(3, "one that did nothing", () -> x.finish(1, true));
    }

    private static void sweptViews() {
        edge("section 10", "(A writer that was begun ahead of a sweep keeps its view; a version is the same one wherever it is moved.)");
        x.table(1);
        x.index(0, 0);
        x.fill(0, 5, 0, 1, 100, false);
        change("drop a where v=0;");
        x.begin(false);
        x.begin(true);
        change("drop a where v=2;");
        x.sweep(0);
        due("1|2|3|4 1|2|3|4", "the views", () -> viewed(0, 0) + " " + viewed(1, 0));
        due("1|3|4", "the table", () -> versions(0));
        write(0, "set a v=v+10 where v=3;");
        write(1, "drop a where v=4;");
        due("1 1", "THROUGH", () -> x.finish(0, false) + " " + x.finish(1, false));
        due("1|3|4|13", "the right ones", () -> versions(0));
        due("1 -1|1 4|1 5|4 -1", "the right ones died", () -> lives(0));
        x.begin(false);
        write(2, "drop a where v=13;");
        x.sweep(0);
        due("1|13", "the table", () -> versions(0));
        due("1 6", "moved behind the write", () -> x.finish(2, false) + " " + x.lived(0, 1, true));
        due(0, "errors()", () -> x.errors());
        edge("section 10", "one that it ended was swept, and another one has its place");
        x.table(1);
        x.fill(0, 2, 0, 1, 100, false);
        x.begin(false);
        write(0, "drop a where v=0;");
        change("drop a where v=0;");
        x.sweep(0);
        due(2, "REFUSED", () -> x.finish(0, false));
        due("1 -1", "the other one stays", () -> x.value(0, 0, 0) + " " + x.lived(0, 0, true));
    }

    private static void finishingRefused() {
        edge("promise 48", "IndexOutOfBoundsException if there is no such WRITER; IllegalStateException if it is not OPEN");
        refused(BOUNDS, "no writer at all", () -> x.finish(0, false));
        x.table(1);
        change("put a 1;");
        for (int i = 0; i < 4; i++) {
            x.begin(false);
        }
        write(2, "drop a;");
        due("1", "THROUGH", () -> "" + x.finish(0, false));
        due("3", "given up", () -> "" + x.finish(1, true));
        change("drop a;");
        due("2", "REFUSED", () -> "" + x.finish(2, false));
        for (int i = 0; i < 3; i++) {
            int writer = i;
            refused(STATE, "not OPEN", () -> x.finish(writer, false));
            refused(STATE, "not OPEN", () -> x.finish(writer, true));
        }
        due(0, "OPEN", () -> x.writerAt(3, 0));
        for (boolean isGiven : new boolean[] {false, true}) {
            refused(BOUNDS, "writer 4", () -> x.finish(4, isGiven));
            refused(BOUNDS, "writer -1", () -> x.finish(-1, isGiven));
            refused(BOUNDS, "writer 12", () -> x.finish(12, isGiven));
            refused(BOUNDS, "writer of the greatest int", () -> x.finish(GREATEST_INT, isGiven));
            refused(BOUNDS, "writer of the least int", () -> x.finish(LEAST_INT, isGiven));
        }
    }

    private static void whatIsTold() {
        edge("promise 49", "2 how many versions alive as of its START it ended, 3 how many it put and did not end");
        refused(BOUNDS, "no writer at all", () -> x.writerAt(0, 0));
        x.table(1);
        x.table(1);
        x.fill(0, 3, 0, 1, 100, false);
        x.fill(1, 3, 0, 1, 100, false);
        x.begin(false);
        due("0 2 0 0", "nothing", () -> writerAt(0));
        write(0, "put a 7;");
        write(0, "put b 7;");
        due("0 2 0 2", "of both tables", () -> writerAt(0));
        write(0, "set a v=v+1;");
        due("0 2 3 5", "three of its START, and the one that it put", () -> writerAt(0));
        write(0, "set a v=v+1;");
        due("0 2 3 5", "those that it put, again", () -> writerAt(0));
        write(0, "drop b where v<2;");
        due("0 2 5 5", "two of b", () -> writerAt(0));
        write(0, "drop a;");
        due("0 2 5 1", "what it put", () -> writerAt(0));
        refused(ARGUMENT, "what 4", () -> x.writerAt(0, 4));
        refused(ARGUMENT, "what -1", () -> x.writerAt(0, -1));
        refused(ARGUMENT, "what of the least int", () -> x.writerAt(0, LEAST_INT));
        refused(ARGUMENT, "what of the greatest int", () -> x.writerAt(0, GREATEST_INT));
        refused(BOUNDS, "writer 1", () -> x.writerAt(1, 0));
        refused(BOUNDS, "writer -1, what 4", () -> x.writerAt(-1, 4));
        refused(BOUNDS, "writer 12", () -> x.writerAt(12, 0));
        refused(BOUNDS, "writer of the greatest int", () -> x.writerAt(GREATEST_INT, 0));
    }

    private static void viewRefused() {
        edge("promise 50", "0 for the first version of the view; NONE for their number (column does not matter then)");
        refused(BOUNDS, "no writer at all", () -> x.view(0, 0, -1, 0));
        x.table(2);
        change("put a 5,lack;");
        x.begin(false);
        change("put a 6,6;");
        due("5 0 1", "the first one, and their number", () -> x.view(0, 0, 0, 0) + " " + x.view(0, 0, 0, 1) + " " + x.view(0, 0, -1, 0));
        due("1 1 1 1", "column does not matter", () -> x.view(0, 0, -1, 2) + " " + x.view(0, 0, -1, -1) + " " + x.view(0, 0, -1, GREATEST_INT)
                + " " + x.view(0, 0, -1, LEAST_INT));
        edge("promise 50", "IndexOutOfBoundsException, IllegalStateException if it is not OPEN, NoSuchElementException, in this order");
        x.table(2);
        change("put a 5,lack;");
        x.begin(false);
        x.begin(false);
        refused(NONE_SUCH, "row 1", () -> x.view(0, 0, 1, 0));
        refused(NONE_SUCH, "row -2", () -> x.view(0, 0, -2, 0));
        refused(NONE_SUCH, "row of the greatest int", () -> x.view(0, 0, GREATEST_INT, 1));
        refused(NONE_SUCH, "row of the least int", () -> x.view(0, 0, LEAST_INT, 1));
        refused(BOUNDS, "column 2", () -> x.view(0, 0, 0, 2));
        refused(BOUNDS, "column -1, row 1", () -> x.view(0, 0, 1, -1));
        refused(BOUNDS, "column of the greatest int, row -2", () -> x.view(0, 0, -2, GREATEST_INT));
        refused(BOUNDS, "table 1", () -> x.view(0, 1, 0, 0));
        refused(BOUNDS, "table 1, their number", () -> x.view(0, 1, -1, 0));
        refused(BOUNDS, "table -1", () -> x.view(0, -1, -1, 0));
        refused(BOUNDS, "writer 2", () -> x.view(2, 0, 0, 0));
        refused(BOUNDS, "writer -1", () -> x.view(-1, 0, -1, 0));
        refused(BOUNDS, "writer of the least int", () -> x.view(LEAST_INT, 0, 0, 0));
        x.finish(0, false);
        x.finish(1, true);
        for (int i = 0; i < 2; i++) {
            int writer = i;
            refused(STATE, "not OPEN", () -> x.view(writer, 0, 0, 0));
            refused(STATE, "not OPEN, their number", () -> x.view(writer, 0, -1, 0));
            refused(STATE, "not OPEN, row 9", () -> x.view(writer, 0, 9, 0));
            refused(BOUNDS, "not OPEN, column 2", () -> x.view(writer, 0, 0, 2));
            refused(BOUNDS, "not OPEN, table 1", () -> x.view(writer, 1, 0, 0));
        }
        edge("promise 50", "NoSuchElementException if the view has no such version: an empty one");
        x.table(1);
        x.begin(false);
        change("put a 1;");
        due(0L, "their number", () -> x.view(0, 0, -1, 0));
        refused(NONE_SUCH, "row 0", () -> x.view(0, 0, 0, 0));
    }

    private static void theorem() {
        edge("promise 54", "always 0");
        due(0, "of a new object", () -> x.errors());
        x.table(1);
        x.table(5);
        due(0, "of empty tables", () -> x.errors());
        ask("from a,b where v0=v1 take v0,z1;");
        ask("from a take count;");
        ask("from b where some(from a where v1=v0)take rank over(along z0);");
        ask("from a,b,b where v0=v1 and w1=w2 take 1;");
        x.keep(0);
        x.keep(1);
        x.index(0, 0);
        x.index(1, 3);
        x.begin(false);
        x.begin(true);
        due(0, "of all that is empty", () -> x.errors());
        x.fill(0, 20, 3, 7, 5, true);
        x.fill(1, 20, 1, 3, 9, true);
        for (int i = 0; i < 3; i++) {
            x.open(i, 2, 7, 9);
            x.step(i, i * 5 + 1);
        }
        x.turn(1);
        write(0, "put a 1;");
        write(0, "set a v=2;");
        write(1, "put b 1,2,3,4,5;");
        due(0, "of much", () -> x.errors());
        x.fill(0, 64, 3, 7, 50, true);
        due(0, "(A question for which rows() would throw an exception is not looked at.)", () -> x.errors());
        change("set b z=65536*65536*65536*32768 where v<5;");
        change("set b y=z-1;");
        change("drop a where v<9;");
        x.sweep(1);
        due(0, "behind changes and a sweep", () -> x.errors());
        refused("0", "errors() changes nothing", () -> x.errors());
        for (int i = 0; i < 3; i++) {
            if (x.runAt(i, 0) == 1) {
                x.turn(i);
            }
            runOn(i);
        }
        due(0, "all runs are OVER", () -> x.errors());
        x.finish(0, false);
        x.finish(1, false);
        x.close(0);
        due(0, "behind the writers, and a run that is closed", () -> x.errors());
    }

    private static Object one(String field, int number) {
        return Array.get(within(x, field), number);
    }

    /** An object of which all can be broken: runs, one of them OVER, an INDEX of two levels, and OPEN writers. */
    private static void whole() {
        x = new Columnworks();
        x.table(1);
        x.fill(0, 20, 0, 1, 1000, false);
        ask("from a take v0,v0+1;");
        ask("from a,a take 1;");
        x.index(0, 0);
        x.keep(0);
        x.keep(1);
        x.open(0, 1, 64, 60);
        runOn(0);
        x.open(0, 1, 4, 60);
        x.step(1, 10);
        x.turn(1);
        x.open(0, 1, 4, 60);
        x.begin(false);
        x.begin(false);
        write(0, "drop a where v<3;");
        write(1, "set a v=v+1 where v<2;");
        due(0, "errors() as all is well", () -> x.errors());
    }

    private static void brokenTheorem() {
        edge("promise 54", "Returns how many of these eight things are not so: each run has given the answer, or its beginning");
        for (int run = 0; run < 3; run++) {
            whole();
            long[] values = (long[]) within(one("runs", run), "values");
            values[values.length - 1]++;
            due(1, "another value of the run " + run, () -> x.errors());
            values[values.length - 1]--;
            due(0, "mended", () -> x.errors());
            boolean[] lacks = (boolean[]) within(one("runs", run), "lacking");
            lacks[0] = true;
            due(1, "another LACKING value of the run " + run, () -> x.errors());
            x.close(run);
            due(0, "closed", () -> x.errors());
        }
        edge("promise 54", "that the rooms are at most 100");
        whole();
        putWithin(one("runs", 1), "state", Columnworks.GOING);
        due(1, "120", () -> x.errors());
        edge("promise 54", "that each kept answer that is not LOST is that of section 4 as of the MOMENT");
        whole();
        x.fill(0, 3, 20, 1, 1000, false);
        due("0 1", "LOST", () -> x.keptAt(0, 0) + " " + x.keptAt(1, 0));
        putWithin(one("keeps", 1), "isLost", false);
        due(1, "not LOST, but rows() throws", () -> x.errors());
        edge("promise 54", "that the entries of each INDEX are the versions of its table with a value in its column, in their order");
        whole();
        int[] places = (int[]) within(one("indexes", 0), "places");
        places[0] = 1;
        due(1, "one of them twice", () -> x.errors());
        places[1] = 0;
        due(1, "in another order", () -> x.errors());
        places[0] = 0;
        places[1] = 1;
        due(0, "mended", () -> x.errors());
        putWithin(one("indexes", 0), "count", 19);
        due(1, "one too few", () -> x.errors());
        edge("promise 54", "and its pages have 1 to 8 (but one without entries)");
        whole();
        due("4 4 4 8|4", "its pages", () -> pages(0));
        int[][] pages = (int[][]) within(one("indexes", 0), "pages");
        System.arraycopy(new int[] {1, 3, 8, 8}, 0, pages[0], 0, 4);
        due(0, "1 to 8", () -> x.errors());
        System.arraycopy(new int[] {0, 4, 8, 8}, 0, pages[0], 0, 4);
        due(1, "a page of none", () -> x.errors());
        System.arraycopy(new int[] {1, 3, 7, 9}, 0, pages[0], 0, 4);
        due(1, "a page of 9", () -> x.errors());
        System.arraycopy(new int[] {4, 4, 4, 7}, 0, pages[0], 0, 4);
        due(1, "an entry in no page", () -> x.errors());
        System.arraycopy(new int[] {4, 4, 4, 8}, 0, pages[0], 0, 4);
        due(0, "mended", () -> x.errors());
        pages[1][0] = 3;
        due(1, "a level above that has another number", () -> x.errors());
        edge("promise 54", "and that for each OPEN writer no version of its views was ended by it");
        for (int writer = 0; writer < 2; writer++) {
            whole();
            Object view = Array.get(within(one("writers", writer), "views"), 0);
            int[] ended = ((int[][]) within(one("writers", writer), "ended"))[0];
            int[] names = (int[]) within(view, "names");
            int before = names[0];
            names[0] = ended[0];
            due(1, "the first one that the writer " + writer + " ended", () -> x.errors());
            names[0] = before;
            names[3] = ended[1];
            due(1, "another one that the writer " + writer + " ended", () -> x.errors());
            x.finish(writer, true);
            due(0, "given up", () -> x.errors());
        }
        edge("promise 54", "Returns how many of these eight things are not so: two of them");
        whole();
        ((int[]) within(one("indexes", 0), "places"))[0] = 1;
        putWithin(one("runs", 1), "state", Columnworks.GOING);
        due(2, "an INDEX, and the rooms", () -> x.errors());
    }

    private static void exceptionsInOrder() {
        edge("section 10", "An IndexOutOfBoundsException is thrown for what does not exist: a table, a column of it, a zone, a question, a run, an index, a kept question or a writer");
        for (int n : new int[] {0, 1, -1, 4, 6, 12, 30, LEAST_INT, GREATEST_INT}) {
            refused(BOUNDS, "fill " + n, () -> x.fill(n, 0, 0, 0, 0, false));
            refused(BOUNDS, "sweep " + n, () -> x.sweep(n));
            refused(BOUNDS, "tableAt " + n, () -> x.tableAt(n, 9));
            refused(BOUNDS, "lived " + n, () -> x.lived(n, 0, false));
            refused(BOUNDS, "lacks " + n, () -> x.lacks(n, 0, 0));
            refused(BOUNDS, "value " + n, () -> x.value(n, 0, 0));
            refused(BOUNDS, "pack " + n, () -> x.pack(n, 0, 9));
            refused(BOUNDS, "wayOf " + n, () -> x.wayOf(n, 0, 0));
            refused(BOUNDS, "sizeOf " + n, () -> x.sizeOf(n, 0, 0, 9));
            refused(BOUNDS, "bound " + n, () -> x.bound(n, 0, 0, false));
            refused(BOUNDS, "tally " + n, () -> x.tally(n));
            refused(BOUNDS, "tallied " + n, () -> x.tallied(n, 0));
            refused(BOUNDS, "questionAt " + n, () -> x.questionAt(n, 9));
            refused(BOUNDS, "program " + n, () -> x.program(n, 9, 9));
            refused(BOUNDS, "rows " + n, () -> x.rows(n, 9));
            refused(BOUNDS, "leftOut " + n, () -> x.leftOut(n, 0, 9, false));
            refused(BOUNDS, "estimate " + n, () -> x.estimate(n, 9, 9));
            refused(BOUNDS, "cost " + n, () -> x.cost(n, 9, 1));
            refused(BOUNDS, "best " + n, () -> x.best(n, 9, 1));
            refused(BOUNDS, "open " + n, () -> x.open(n, 9, 0, 1));
            refused(BOUNDS, "step " + n, () -> x.step(n, 0));
            refused(BOUNDS, "turn " + n, () -> x.turn(n));
            refused(BOUNDS, "close " + n, () -> x.close(n));
            refused(BOUNDS, "runAt " + n, () -> x.runAt(n, 9));
            refused(BOUNDS, "taskAt " + n, () -> x.taskAt(n, 0, 9));
            refused(BOUNDS, "isLacking " + n, () -> x.isLacking(n, 0, 0));
            refused(BOUNDS, "answer " + n, () -> x.answer(n, 0, 0));
            refused(BOUNDS, "index " + n, () -> x.index(n, 0));
            refused(BOUNDS, "indexAt " + n, () -> x.indexAt(n, 9));
            refused(BOUNDS, "page " + n, () -> x.page(n, 0, 0));
            refused(BOUNDS, "entry " + n, () -> x.entry(n, 0));
            refused(BOUNDS, "seek " + n, () -> x.seek(n, 0));
            refused(BOUNDS, "keep " + n, () -> x.keep(n));
            refused(BOUNDS, "keptAt " + n, () -> x.keptAt(n, 9));
            refused(BOUNDS, "keptLacks " + n, () -> x.keptLacks(n, 0, 0));
            refused(BOUNDS, "kept " + n, () -> x.kept(n, 0, 0));
            refused(BOUNDS, "write " + n, () -> x.write(n));
            refused(BOUNDS, "finish " + n, () -> x.finish(n, false));
            refused(BOUNDS, "writerAt " + n, () -> x.writerAt(n, 9));
            refused(BOUNDS, "view " + n, () -> x.view(n, 0, 0, 0));
            refused(BOUNDS, "meanSize " + n, () -> x.meanSize(n));
            refused(BOUNDS, "leftShare " + n, () -> x.leftShare(n));
            refused(BOUNDS, "checksum " + n, () -> x.checksum(n));
        }
    }
}
