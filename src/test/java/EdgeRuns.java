/** Boundary cases of runs: section 7 and the promises 29 to 36, 52 and 53. */
public final class EdgeRuns extends Edges {
    public static void main(String[] args) {
        opening();
        openingRefused();
        rooms();
        thirty();
        scans();
        otherCallsAhead();
        joins();
        joinsByIndex();
        groupsAndWindows();
        batches();
        passes();
        noSteps();
        stepping();
        steppingRefused();
        turning();
        closing();
        asOpened();
        whatIsToldOfRuns();
        whatIsToldOfTasks();
        givenRows();
        rowsRefused();
        leftShares();
        checksums();
        finish();
    }

    private static void opening() {
        edge("promise 29", "If the text is empty, it has the BEST plan, otherwise that of the text, which is emptied");
        x.table(1);
        x.table(1);
        x.fill(0, 3, 0, 1, 10, false);
        x.fill(1, 3, 0, 1, 10, false);
        ask("from a,b where v0=v1 take v0;");
        due(0, "open with an empty text", () -> x.open(0, 2, 8, 8));
        runOn(0);
        due("0 3 3 1 0|0 3 3 1 0|2 6 3 2 0|6 3 3 1 0|7 3 3 1 0", "the BEST plan (0h1)", () -> tasks(0));
        type("(1x0)");
        due(1, "open with a plan", () -> x.open(0, 2, 8, 8));
        due(0, "the text is emptied", () -> x.type(0));
        runOn(1);
        due("0 3 3 1 0|0 3 3 1 0|1 6 3 1 0|6 3 3 1 0|7 3 3 1 0", "that of the text", () -> tasks(1));
        due("0|1|2 0|1|2", "the answer is the same", () -> given(0, 1) + " " + given(1, 1));
        type(" ");
        refused(ARGUMENT, "a blank is not an empty text", () -> x.open(0, 2, 8, 8));
        text("from a take v0;");
        refused(ARGUMENT, "nor is a question", () -> x.open(0, 2, 8, 8));
    }

    private static void openingRefused() {
        edge("promise 29", "IndexOutOfBoundsException, IllegalArgumentException, IllegalStateException, in this order");
        refused(BOUNDS, "no question at all", () -> x.open(0, 0, 1, 2));
        x.table(1);
        ask("from a,a,a where v0=v1 take v0;");
        due("0 1", "the least ones", () -> x.open(0, 0, 1, 2) + " " + x.open(0, 0, 1, 2));
        due("2", "the greatest ones", () -> "" + x.open(0, 0, 64, 64));
        for (int batch : new int[] {0, -1, 65, LEAST_INT, GREATEST_INT}) {
            refused(ARGUMENT, "a batch of " + batch, () -> x.open(0, 0, batch, 2));
        }
        for (int room : new int[] {1, 0, -1, 65, LEAST_INT, GREATEST_INT}) {
            refused(ARGUMENT, "a room of " + room, () -> x.open(0, 0, 1, room));
        }
        for (int moment : new int[] {1, -1, LEAST_INT, GREATEST_INT}) {
            refused(ARGUMENT, "moment " + moment, () -> x.open(0, moment, 1, 2));
        }
        refused(BOUNDS, "question 1", () -> x.open(1, 0, 1, 2));
        refused(BOUNDS, "question -1, and all else out of range", () -> x.open(-1, -1, 0, 1));
        type("(0h1)");
        refused(ARGUMENT, "no plan of all sources", () -> x.open(0, 0, 1, 2));
        refused(BOUNDS, "question 1, and no plan", () -> x.open(1, 0, 1, 2));
        text("((0m1)i2)");
        refused(ARGUMENT, "no LAWFUL plan", () -> x.open(0, 0, 1, 2));
        x.fill(0, 8, 0, 0, 1, false);
        refused(ARGUMENT, "no LAWFUL plan, and 512 rows", () -> x.open(0, 1, 1, 2));
        text("((0m1)x2)");
        refused(STATE, "512 rows", () -> x.open(0, 1, 1, 2));
        refused(ARGUMENT, "a batch of 0, and 512 rows", () -> x.open(0, 1, 0, 2));
        due(3, "as of the moment ahead", () -> x.open(0, 0, 1, 2));
        due(0, "the text had stayed until then", () -> x.type(0));
        x.sweep(0);
        refused(STATE, "as for rows(): the SINCE is later", () -> x.open(0, 0, 1, 2));
        edge("promise 29", "as for rows(): those of its sources and of any one of its inner questions together");
        x.table(1);
        x.fill(0, 23, 0, 1, 100, false);
        ask("from a where 1=2 and some(from a)take 1;");
        refused(STATE, "23 * 23", () -> x.open(0, 1, 1, 2));
        due(0, "0 * 0", () -> x.open(0, 0, 1, 2));
    }

    private static void rooms() {
        edge("section 7", "The rooms of all runs that are GOING are together 100 at most");
        x.table(1);
        change("put a 1;");
        ask("from a take v0;");
        due(0, "64", () -> x.open(0, 1, 1, 64));
        refused(STATE, "64 and 37", () -> x.open(0, 1, 1, 37));
        due(1, "64 and 36", () -> x.open(0, 1, 1, 36));
        refused(STATE, "102", () -> x.open(0, 1, 1, 2));
        type("0");
        refused(STATE, "102, with a plan", () -> x.open(0, 1, 1, 2));
        x.turn(1);
        due(2, "one is STOPPED: its plan had stayed in the text", () -> x.open(0, 1, 1, 36));
        due(0, "the text is emptied", () -> x.type(0));
        runOn(2);
        due(3, "one is OVER", () -> x.open(0, 1, 1, 36));
        x.close(3);
        due(4, "one is closed", () -> x.open(0, 1, 1, 30));
        refused(STATE, "94 and 36", () -> x.turn(1));
        x.close(4);
        due(0, "64 and 36", () -> x.turn(1));
        due(0, "errors()", () -> x.errors());
        edge("promise 29", "its room and those of the runs that are GOING would be more than 100 together (also if it would be OVER at once)");
        x.table(1);
        ask("from a take v0;");
        change("put a 1;");
        x.open(0, 1, 1, 64);
        refused(STATE, "37", () -> x.open(0, 0, 1, 37));
        due(1, "36", () -> x.open(0, 0, 1, 36));
        due(2, "it is OVER at once", () -> x.runAt(1, 0));
        due(2, "it has no room", () -> x.open(0, 1, 1, 36));
        refused(ARGUMENT, "what is listed first", () -> x.open(0, 1, 1, 65));
    }

    private static void thirty() {
        edge("promise 29", "IllegalStateException if there were 30 runs");
        x.table(1);
        ask("from a take v0;");
        for (int i = 0; i < 30; i++) {
            int number = i;
            due(number, "its number, from 0 on", () -> x.open(0, 0, 1, 2));
            if (i % 3 == 0) {
                x.close(i);
            }
        }
        type("0");
        refused(STATE, "the 31st", () -> x.open(0, 0, 1, 2));
        refused(ARGUMENT, "what is listed first", () -> x.open(0, 0, 0, 2));
        x.close(29);
        refused(STATE, "a closed one counts", () -> x.open(0, 0, 1, 2));
        due(2, "the last one", () -> x.runAt(28, 0));
        refused(BOUNDS, "run 30", () -> x.runAt(30, 0));
        due(0, "errors() of 30", () -> x.errors());
        edge("section 7", "At most 30 runs are opened: the last one can be STOPPED and go on, too");
        x.table(1);
        x.fill(0, 5, 0, 1, 10, false);
        ask("from a take v0;");
        for (int i = 0; i < 30; i++) {
            x.open(0, 1, 1, 2);
        }
        due("1 0", "the last one", () -> x.turn(29) + " " + x.turn(29));
        due(0, "errors() as all are GOING", () -> x.errors());
        due(0, "the first one is closed as it is GOING", () -> x.close(0));
        refused(STATE, "also behind a close()", () -> x.open(0, 1, 1, 2));
    }

    /** a: 40 versions, v from 0 on, the first 20 and the last one dead; b: v 0 to 4. */
    private static void start() {
        x = new Columnworks();
        x.table(2);
        x.table(2);
        x.fill(0, 40, 0, 1, 1000, false);
        change("drop a where v<20 or v=39;");
        x.fill(1, 5, 0, 1, 5, false);
    }

    private static void run(String question, String plan, int batch, int room, String want) {
        int run = open(plan, ask(question), batch, room);
        runOn(run);
        due(want, "the tasks of " + question + " by " + plan + " with a batch of " + batch + " and a room of " + room, () -> tasks(run));
        due(0, "errors()", () -> x.errors());
    }

    private static void scans() {
        edge("section 7", "SCAN: IN is READ, OUT the number of versions that are alive and for which all conjuncts are so that have refs of no other source");
        start();
        // the zones 16 to 31 and 32 to 39 have 12 and 7 that are alive
        run("from a take 1;", "0", 64, 64, "0 24 19 2 0|6 19 19 1 0|7 19 19 1 0");
        run("from a where v0<32 take 1;", "0", 64, 64, "0 16 12 1 0|6 12 12 1 0|7 12 12 1 0");
        run("from a where v0<>25 and 31<v0 take 1;", "0", 64, 64, "0 8 7 1 0|6 7 7 1 0|7 7 7 1 0");
        run("from a where v0=1000 take 1;", "0", 64, 64, "0 0 0 0 0|6 0 0 0 0|7 0 0 0 0");
        run("from a where 1=1 take 1;", "0", 64, 64, "0 24 19 2 0|6 19 19 1 0|7 19 19 1 0");
        run("from a where v0=v0 and lacks w0 take 1;", "0", 64, 64, "0 0 0 0 0|6 0 0 0 0|7 0 0 0 0");
        edge("section 7", "(those without refs are so for all, or for none)");
        start();
        run("from a where 1=2 take 1;", "0", 64, 64, "0 24 0 2 0|6 0 0 0 0|7 0 0 0 0");
        run("from a,b where 1=2 take 1;", "(0x1)", 64, 64, "0 24 0 2 0|0 5 0 1 0|1 0 0 0 0|6 0 0 0 0|7 0 0 0 0");
        run("from a where some(from b)take 1;", "0", 64, 64, "0 24 19 2 0|6 19 19 1 0|7 19 19 1 0");
        run("from a where not some(from b)take 1;", "0", 64, 64, "0 24 0 2 0|6 0 0 0 0|7 0 0 0 0");
        run("from a,b where some(from b where v2=4)take 1;", "(1x0)", 64, 64, "0 5 5 1 0|0 24 19 2 0|1 24 95 1 0|6 95 95 4 95|7 95 95 2 0");
        edge("section 7", "refs of a question's own sources within inner questions count, those of inner sources do not; likewise for a SCAN");
        start();
        run("from a where some(from b where v1=v0-20)take 1;", "0", 64, 64, "0 24 5 2 0|6 5 5 1 0|7 5 5 1 0");
        run("from a,b where some(from b where v2=v1 and v2<2)take 1;", "(0x1)", 64, 64,
                "0 24 19 2 0|0 5 2 1 0|1 21 38 1 0|6 38 38 1 0|7 38 38 1 0");
        run("from a,b where v0-20 in(from b where v1<2 take v2)take 1;", "(0x1)", 64, 64,
                "0 24 19 2 0|0 5 5 1 0|1 24 10 1 0|6 10 10 1 0|7 10 10 1 0");
        run("from a,b where v0-20 in(from b where v2<2 take v2)take 1;", "(0x1)", 64, 64,
                "0 24 2 2 0|0 5 5 1 0|1 7 10 1 0|6 10 10 1 0|7 10 10 1 0");
        edge("section 7", "a conjunct that is an or, as a whole");
        start();
        run("from a,b where v0<25 or v1<2 take 1;", "(0x1)", 64, 64, "0 24 19 2 0|0 5 5 1 0|1 24 53 1 0|6 53 53 1 0|7 53 53 1 0");
    }

    private static void otherCallsAhead() {
        edge("section 7", "Zones, READ and the values are those of the tables as the run is opened: whatever was asked ahead");
        String want = "0 24 19 2 0|0 5 5 1 0|1 24 5 30 0|6 5 5 3 0|7 5 5 3 0";
        start();
        ask("from a,b where v0=v1+20 take v0;");
        ask("from b,b,a where v0=v1 and v2=20 take v0;");
        x.begin(false);
        x.rows(0, x.moment());
        x.errors();
        runOn(open("(0x1)", 0, 2, 64));
        due(want, "behind errors()", () -> tasks(0));
        x.rows(0, x.moment());
        write(0, "drop b where v<3;");
        runOn(open("(0x1)", 0, 2, 64));
        due(want, "behind what a writer did to its view", () -> tasks(1));
        x.rows(0, x.moment());
        x.rows(1, x.moment());
        runOn(open("(0x1)", 0, 2, 64));
        due(want, "behind another question", () -> tasks(2));
        x.rows(0, x.moment());
        x.rows(0, 1);
        runOn(open("(0x1)", 0, 2, 64));
        due(want, "behind another moment", () -> tasks(3));
        due("20|21|22|23|24", "the answer", () -> given(3, 1));
    }

    private static void joins() {
        edge("section 7", "JOIN: IN is what goes out of its left and of its right part together; OUT those for which all conjuncts are so of their sources alone");
        start();
        run("from a,b where v0=v1+20 take v0;", "(0x1)", 2, 64, "0 24 19 2 0|0 5 5 1 0|1 24 5 30 0|6 5 5 3 0|7 5 5 3 0");
        run("from a,b where v0-20=v1 and v0=w1 take v0;", "(0x1)", 64, 64, "0 24 19 2 0|0 5 5 1 0|1 24 0 1 0|6 0 0 0 0|7 0 0 0 0");
        edge("section 7", "h: C(e) + C(f), twice as many if f is above the room; SPILLED e + f if f is above the room");
        x.table(1);
        x.table(1);
        x.fill(0, 6, 0, 1, 100, false);
        x.fill(1, 5, 0, 1, 100, false);
        run("from a,b where v0=v1 take v0;", "(0h1)", 4, 5, "0 6 6 1 0|0 5 5 1 0|2 11 5 4 0|6 5 5 2 0|7 5 5 2 0");
        run("from a,b where v0=v1 take v0;", "(0h1)", 4, 4, "0 6 6 1 0|0 5 5 1 0|2 11 5 8 11|6 5 5 4 5|7 5 5 2 0");
        run("from a,b where v0=v1 take v0;", "(1h0)", 4, 6, "0 5 5 1 0|0 6 6 1 0|2 11 5 4 0|6 5 5 2 0|7 5 5 2 0");
        run("from a,b where v0=v1 take v0;", "(1h0)", 4, 5, "0 5 5 1 0|0 6 6 1 0|2 11 5 8 11|6 5 5 2 0|7 5 5 2 0");
        edge("section 7", "m: (1 + P(e)) * C(e) and (1 + P(f)) * C(f); SPILLED P(e) * e + P(f) * f");
        x.table(1);
        x.table(1);
        x.fill(0, 6, 0, 1, 100, false);
        x.fill(1, 5, 0, 1, 100, false);
        run("from a,b where v0=v1 take v0;", "(0m1)", 4, 6, "0 6 6 1 0|0 5 5 1 0|3 11 5 4 0|6 5 5 2 0|7 5 5 2 0");
        run("from a,b where v0=v1 take v0;", "(0m1)", 4, 5, "0 6 6 1 0|0 5 5 1 0|3 11 5 6 6|6 5 5 2 0|7 5 5 2 0");
        run("from a,b where v0=v1 take v0;", "(0m1)", 4, 4, "0 6 6 1 0|0 5 5 1 0|3 11 5 8 11|6 5 5 4 5|7 5 5 2 0");
        run("from a,b where v0=v1 take v0;", "(1m0)", 64, 2, "0 5 5 1 0|0 6 6 1 0|3 11 5 6 22|6 5 5 3 10|7 5 5 1 0");
        edge("section 7", "x: C(e) * C(f), none SPILLED; a part that gives nothing");
        x.table(1);
        x.table(1);
        x.fill(0, 6, 0, 1, 100, false);
        run("from a,b take v0;", "(0x1)", 1, 2, "0 6 6 1 0|0 0 0 0 0|1 6 0 0 0|6 0 0 0 0|7 0 0 0 0");
        run("from a,b where v0=v1 take v0;", "(0h1)", 1, 2, "0 6 6 1 0|0 0 0 0 0|2 6 0 6 0|6 0 0 0 0|7 0 0 0 0");
        run("from a,b where v0=v1 take v0;", "(1h0)", 1, 2, "0 0 0 0 0|0 6 6 1 0|2 6 0 12 6|6 0 0 0 0|7 0 0 0 0");
        run("from a,b where v0=v1 take v0;", "(0m1)", 1, 2, "0 6 6 1 0|0 0 0 0 0|3 6 0 18 12|6 0 0 0 0|7 0 0 0 0");
        edge("section 7", "TASKS: those of its left part, those of its right part, and the JOIN");
        x.table(1);
        x.table(1);
        x.fill(0, 3, 0, 1, 100, false);
        x.fill(1, 2, 0, 1, 100, false);
        run("from a,b,a where v0=v1 and v1=v2 take v0;", "((0x1)x2)", 1, 64,
                "0 3 3 1 0|0 2 2 1 0|1 5 2 6 0|0 3 3 1 0|1 5 2 6 0|6 2 2 2 0|7 2 2 2 0");
        run("from a,b,a where v0=v1 and v1=v2 take v0;", "(0x(2x1))", 1, 64,
                "0 3 3 1 0|0 3 3 1 0|0 2 2 1 0|1 5 2 6 0|1 5 2 6 0|6 2 2 2 0|7 2 2 2 0");
        run("from a,b,a where v0=v1 and v1=v2 take v0;", "((0x2)x1)", 1, 64,
                "0 3 3 1 0|0 3 3 1 0|1 6 9 9 0|0 2 2 1 0|1 11 2 18 0|6 2 2 2 0|7 2 2 2 0");
    }

    private static void joinsByIndex() {
        edge("section 7", "none of it, if it is by i; IN what goes out of its left part, and FOUND; C(e) + C(FOUND)");
        x.table(1);
        x.table(1);
        x.fill(0, 4, 0, 1, 100, false);
        change("put a lack;");
        x.fill(1, 6, 0, 1, 3, false);
        change("put b lack;");
        x.index(1, 0);
        // a has 0 1 2 3 and LACKING; each of 0, 1 and 2 has two entries
        run("from a,b where v0=v1 take v0;", "(0i1)", 2, 64, "0 5 5 1 0|8 11 6 6 0|6 6 6 3 0|7 6 6 3 0");
        edge("section 7", "FOUND: for each such row with a value in the equality, the number of entries (dead versions', too), as the run is opened");
        x.table(1);
        x.table(1);
        x.fill(0, 4, 0, 1, 100, false);
        x.fill(1, 6, 0, 1, 3, false);
        x.index(1, 0);
        change("drop b where v=0;");
        ask("from a,b where v0=v1 take v0;");
        text("(0i1)");
        x.open(0, 3, 2, 64);
        change("put b 1;");
        x.sweep(1);
        runOn(0);
        due("0 4 4 1 0|8 10 4 5 0|6 4 4 2 0|7 4 4 2 0", "found dead, but not given", () -> tasks(0));
        due("1|1|2|2", "the answer", () -> given(0, 1));
        text("(0i1)");
        x.open(0, 4, 2, 64);
        runOn(1);
        due("0 4 4 1 0|8 9 5 5 0|6 5 5 3 0|7 5 5 3 0", "without the swept ones, with the new one", () -> tasks(1));
        edge("section 7", "FOUND: for each such row, the first and the last one, too");
        x.table(1);
        x.table(1);
        change("put a 2;");
        change("put a 0;");
        change("put a 2;");
        x.fill(1, 7, 0, 1, 3, false);
        x.index(1, 0);
        // 2 has two entries, 0 has three
        run("from a,b where v0=v1 take v0;", "(0i1)", 64, 64, "0 3 3 1 0|8 10 7 2 0|6 7 7 1 0|7 7 7 1 0");
        edge("section 7", "a left part that gives nothing");
        x.table(1);
        x.table(1);
        x.fill(1, 6, 0, 1, 3, false);
        x.index(1, 0);
        run("from a,b where v0=v1 take v0;", "(0i1)", 1, 2, "0 0 0 0 0|8 0 0 0 0|6 0 0 0 0|7 0 0 0 0");
        edge("section 7", "the right source's own conjuncts count for OUT, not for FOUND");
        x.table(1);
        x.table(2);
        x.fill(0, 3, 0, 1, 100, false);
        x.fill(1, 9, 0, 1, 3, false);
        x.index(1, 0);
        run("from a,b where v0=v1 and w1=0 and v0<2 take v0;", "(0i1)", 64, 64, "0 3 2 1 0|8 8 3 2 0|6 3 3 1 0|7 3 3 1 0");
        due("1 0 1", "the zones are those of the source with a SCAN alone", () -> (x.runAt(0, 5) + x.runAt(0, 6)) + " " + x.runAt(0, 5) + " " + x.runAt(0, 6));
    }

    private static void groupsAndWindows() {
        edge("section 7", "GROUP: IN is what goes out of the plan, OUT the groups that stay; then ORDER (also without keys); then GIVE");
        x.table(1);
        x.fill(0, 9, 0, 1, 3, false);
        run("from a by v0 take v0;", "0", 2, 64, "0 9 9 1 0|4 9 3 5 0|6 3 3 2 0|7 3 3 2 0");
        run("from a by v0 with v0<2 take v0;", "0", 2, 4, "0 9 9 1 0|4 9 2 10 9|6 2 2 1 0|7 2 2 1 0");
        run("from a take count;", "0", 2, 3, "0 9 9 1 0|4 9 1 10 9|6 1 1 1 0|7 1 1 1 0");
        run("from a where v0=7 take count;", "0", 2, 2, "0 0 0 0 0|4 0 1 0 0|6 1 1 1 0|7 1 1 1 0");
        run("from a where v0=7 by v0 take count;", "0", 2, 2, "0 0 0 0 0|4 0 0 0 0|6 0 0 0 0|7 0 0 0 0");
        edge("section 7", "all tasks that there can be: three SCANs, two JOINs, GROUP or WINDOW, ORDER, GIVE");
        x.table(1);
        x.fill(0, 3, 0, 1, 100, false);
        run("from a,a,a where v0=v1 and v1=v2 by v0 take v0,count;", "((0h1)h2)", 1, 3,
                "0 3 3 1 0|0 3 3 1 0|2 6 3 6 0|0 3 3 1 0|2 6 3 6 0|4 3 3 3 0|6 3 3 3 0|7 3 3 3 0");
        due("2 24 -1 3 0 0 3 8 1", "eight", () -> runAt(0));
        run("from a,a,a where v0=v1 and v1=v2 take rank over(along v0);", "(0h(1m2))", 1, 2,
                "0 3 3 1 0|0 3 3 1 0|0 3 3 1 0|3 6 3 12 6|2 6 3 12 6|5 3 3 6 3|6 3 3 6 3|7 3 3 3 0");
        edge("section 7", "of one with an item with over WINDOW: the same goes out");
        x.table(1);
        x.fill(0, 9, 0, 1, 3, false);
        run("from a take v0,rank over(along v0);", "0", 2, 2, "0 9 9 1 0|5 9 9 20 27|6 9 9 20 27|7 9 9 5 0");
        run("from a where v0=1 take run(v0)over(along v0),rank over(along v0)order v0 first 2;", "0", 2, 2,
                "0 9 3 1 0|5 3 3 4 3|6 3 3 4 3|7 3 2 1 0");
        run("from a take v0;", "0", 2, 64, "0 9 9 1 0|6 9 9 5 0|7 9 9 5 0");
        edge("section 7", "GIVE: IN likewise; OUT the rows of the answer; C(OUT)");
        x.table(1);
        x.fill(0, 9, 0, 1, 3, false);
        run("from a take v0 first 0;", "0", 2, 64, "0 9 9 1 0|6 9 9 5 0|7 9 0 0 0");
        run("from a take v0 first 1;", "0", 2, 64, "0 9 9 1 0|6 9 9 5 0|7 9 1 1 0");
        run("from a take v0 first 9;", "0", 2, 64, "0 9 9 1 0|6 9 9 5 0|7 9 9 5 0");
        run("from a take v0 first 99;", "0", 2, 64, "0 9 9 1 0|6 9 9 5 0|7 9 9 5 0");
        run("from a by v0 take v0 first 2;", "0", 1, 64, "0 9 9 1 0|4 9 3 9 0|6 3 3 3 0|7 3 2 2 0");
    }

    private static void batches() {
        edge("section 7", "C(n) is n by the batch, rounded up");
        int[][] known = {{1, 9, 9}, {2, 9, 5}, {3, 9, 3}, {4, 9, 3}, {8, 9, 2}, {9, 9, 1}, {10, 9, 1}, {64, 9, 1}, {64, 64, 1}, {63, 64, 2}, {1, 64, 64}};
        for (int[] k : known) {
            x = new Columnworks();
            x.table(1);
            x.fill(0, k[1], 0, 1, 100, false);
            int zones = (k[1] + 15) / 16;
            String tasks = "0 " + k[1] + " " + k[1] + " " + zones + " 0|6 " + k[1] + " " + k[1] + " " + k[2] + " 0|7 " + k[1] + " " + k[1] + " " + k[2] + " 0";
            run("from a take v0;", "0", k[0], 64, tasks);
        }
        edge("section 7", "the greatest batch over more rows");
        x.table(1);
        x.fill(0, 64, 0, 1, 100, false);
        x.fill(0, 1, 64, 1, 100, false);
        run("from a take v0;", "0", 64, 64, "0 65 65 5 0|6 65 65 4 65|7 65 65 2 0");
    }

    private static void passes() {
        edge("section 7", "GROUP, WINDOW, ORDER: (1 + P(IN)) * C(IN); SPILLED P(IN) * IN");
        int[][] known = {{2, 2, 0}, {3, 2, 1}, {4, 2, 1}, {5, 2, 2}, {9, 2, 3}, {17, 2, 4}, {33, 2, 5}, {3, 3, 0}, {4, 3, 1}, {10, 3, 2}, {64, 64, 0}, {64, 63, 1}};
        for (int[] k : known) {
            x = new Columnworks();
            x.table(1);
            x.fill(0, k[0], 0, 0, 1, false);
            int p = k[2];
            String end = k[0] + " " + k[0] + " " + (1 + p) * k[0] + " " + p * k[0];
            String scan = "0 " + k[0] + " " + k[0] + " " + (k[0] + 15) / 16 + " 0|";
            run("from a take v0;", "0", 1, k[1], scan + "6 " + end + "|7 " + k[0] + " " + k[0] + " " + k[0] + " 0");
            run("from a take rank over(along v0)first 0;", "0", 1, k[1], scan + "5 " + end + "|6 " + end + "|7 " + k[0] + " 0 0 0");
            run("from a take count;", "0", 1, k[1], scan + "4 " + k[0] + " 1 " + (1 + p) * k[0] + " " + p * k[0] + "|6 1 1 1 0|7 1 1 1 0");
        }
    }

    private static void noSteps() {
        edge("section 7", "one of no steps is over as soon as it is come to (the first one as the run is opened)");
        x.table(1);
        x.table(1);
        ask("from a take v0;");
        x.open(0, 0, 1, 2);
        due("2 0 -1 0 0 0 0 3 0", "all of no steps: OVER as it is opened", () -> runAt(0));
        due("0 0 0 0 0|6 0 0 0 0|7 0 0 0 0", "its tasks", () -> tasks(0));
        ask("from a take count;");
        x.open(1, 0, 1, 2);
        due("0 0 2 0 0 0 0 4 0", "SCAN and GROUP are over as it is opened", () -> runAt(1));
        due("4 0 1 0 0", "GROUP", () -> task(1, 1));
        refused(NONE_SUCH, "ORDER", () -> x.taskAt(1, 2, 1));
        due(1, "ORDER", () -> x.step(1, 1));
        due("0 1 3 0 0 0 0 4 0", "GIVE is at hand", () -> runAt(1));
        due(1, "GIVE", () -> x.step(1, 1));
        due("2 2 -1 1 0 0 0 4 0", "OVER behind its last task", () -> runAt(1));
        change("put a 1;");
        ask("from a where v0<1 take v0;");
        x.open(2, 1, 1, 2);
        due("2 0 -1 0 0 1 0 3 1", "all zones are left out", () -> runAt(2));
        ask("from a where v0=1 and 1=2 take v0;");
        x.open(3, 1, 1, 2);
        due("0 0 0 0 0 0 1 3 1", "a zone is read", () -> runAt(3));
        due(1, "fewer steps, as it is OVER then", () -> x.step(3, 5));
        due("2 1 -1 0 0 0 1 3 1", "the others have no steps", () -> runAt(3));
        ask("from a take v0 first 0;");
        x.open(4, 1, 1, 2);
        due("1 1", "SCAN and ORDER", () -> x.step(4, 1) + " " + x.step(4, 1));
        due(2, "GIVE has no steps", () -> x.runAt(4, 0));
        ask("from b,a take v0;");
        text("(0x1)");
        x.open(5, 1, 1, 2);
        due("0 0 1 0 0 0 1 5 1", "an empty SCAN is over, the next one is at hand", () -> runAt(5));
        due("0 0 0 0 0", "its task", () -> task(5, 0));
        due(1, "the JOIN has no steps", () -> x.step(5, 100));
    }

    // ---- steps, turns, ends

    private static void fiveRows() {
        x = new Columnworks();
        x.table(1);
        x.fill(0, 5, 0, 1, 100, false);
        ask("from a take v0;");
        // one step, 5 and 5
        x.open(0, 1, 1, 8);
    }

    private static void stepping() {
        edge("promise 30", "Returns how many it did (fewer if it is OVER then)");
        fiveRows();
        due(1, "one", () -> x.step(0, 1));
        due("0 1 1 0 0 0 1 3 1", "the next task is at hand", () -> runAt(0));
        due(4, "four", () -> x.step(0, 4));
        due("0 5 1 0 0 0 1 3 1", "still that one", () -> runAt(0));
        due(3, "three, of two tasks", () -> x.step(0, 3));
        due("0 8 2 2 0 0 1 3 1", "two rows are given", () -> runAt(0));
        due(3, "three, of 100000", () -> x.step(0, 100000));
        due("2 11 -1 5 0 0 1 3 1", "OVER", () -> runAt(0));
        fiveRows();
        due(11, "all at once, none too many", () -> x.step(0, 11));
        due(2, "OVER", () -> x.runAt(0, 0));
        fiveRows();
        due(10, "all but one", () -> x.step(0, 10));
        due("0 10 2 4 0 0 1 3 1", "GOING", () -> runAt(0));
        due(1, "the last one", () -> x.step(0, 2));
    }

    private static void steppingRefused() {
        edge("promise 30", "IndexOutOfBoundsException, IllegalArgumentException if steps is out of range, IllegalStateException if it is not GOING");
        refused(BOUNDS, "no run at all", () -> x.step(0, 1));
        fiveRows();
        for (int steps : new int[] {0, -1, 100001, LEAST_INT, GREATEST_INT}) {
            refused(ARGUMENT, steps + " steps", () -> x.step(0, steps));
        }
        refused(BOUNDS, "run 1", () -> x.step(1, 1));
        refused(BOUNDS, "run -1, 0 steps", () -> x.step(-1, 0));
        refused(BOUNDS, "run 30", () -> x.step(30, 1));
        x.turn(0);
        refused(STATE, "STOPPED", () -> x.step(0, 1));
        refused(ARGUMENT, "STOPPED, 0 steps", () -> x.step(0, 0));
        x.turn(0);
        due(11, "100000 steps", () -> x.step(0, 100000));
        refused(STATE, "OVER", () -> x.step(0, 1));
        refused(ARGUMENT, "OVER, 100001 steps", () -> x.step(0, 100001));
        x.close(0);
        refused(BOUNDS, "closed", () -> x.step(0, 1));
        refused(BOUNDS, "closed, 0 steps", () -> x.step(0, 0));
    }

    private static void turning() {
        edge("promise 31", "Stops a run that is GOING, or lets one that is STOPPED go on. Returns its state then");
        refused(BOUNDS, "no run at all", () -> x.turn(0));
        fiveRows();
        x.step(0, 7);
        due(1, "STOPPED", () -> x.turn(0));
        due("1 7 2 1 0 0 1 3 1", "all else stays", () -> runAt(0));
        due("0", "what it gave", () -> given(0, 1));
        due(0, "GOING", () -> x.turn(0));
        due("0 7 2 1 0 0 1 3 1", "all else stays", () -> runAt(0));
        runOn(0);
        refused(STATE, "OVER", () -> x.turn(0));
        refused(BOUNDS, "run 1", () -> x.turn(1));
        refused(BOUNDS, "run -1", () -> x.turn(-1));
        refused(BOUNDS, "run of the greatest int", () -> x.turn(GREATEST_INT));
        x.close(0);
        refused(BOUNDS, "closed", () -> x.turn(0));
        edge("promise 31", "IllegalStateException if it is OVER, or the rooms would be more than 100 together");
        x.table(1);
        change("put a 1;");
        ask("from a take v0;");
        x.open(0, 1, 1, 64);
        x.turn(0);
        x.open(0, 1, 1, 37);
        refused(STATE, "101", () -> x.turn(0));
        due(1, "to stop one needs no room", () -> x.turn(1));
        due(0, "64", () -> x.turn(0));
        refused(STATE, "101", () -> x.turn(1));
        x.open(0, 1, 1, 36);
        due(1, "100, and one stops", () -> x.turn(2));
        due(0, "100, and it goes on", () -> x.turn(2));
    }

    private static void closing() {
        edge("promise 32", "Closes a run. Returns its state before");
        refused(BOUNDS, "no run at all", () -> x.close(0));
        fiveRows();
        x.open(0, 1, 1, 8);
        x.open(0, 1, 1, 8);
        x.turn(1);
        runOn(2);
        due("0 1 2", "GOING, STOPPED, OVER", () -> x.close(0) + " " + x.close(1) + " " + x.close(2));
        for (int i = 0; i < 3; i++) {
            int run = i;
            refused(BOUNDS, "closed", () -> x.close(run));
            refused(BOUNDS, "closed", () -> x.runAt(run, 0));
            refused(BOUNDS, "closed", () -> x.taskAt(run, 0, 0));
            refused(BOUNDS, "closed", () -> x.isLacking(run, 0, 0));
            refused(BOUNDS, "closed", () -> x.answer(run, 0, 0));
            refused(BOUNDS, "closed", () -> x.leftShare(run));
            refused(BOUNDS, "closed", () -> x.checksum(run));
        }
        refused(BOUNDS, "run 3", () -> x.close(3));
        refused(BOUNDS, "run -1", () -> x.close(-1));
        refused(BOUNDS, "run of the least int", () -> x.close(LEAST_INT));
        due(3, "its number is not used again", () -> x.open(0, 1, 1, 8));
        due(0, "errors()", () -> x.errors());
    }

    private static void asOpened() {
        edge("section 7", "Zones, READ and the values are those of the tables as the run is opened");
        x.table(2);
        x.fill(0, 20, 0, 1, 100, false);
        ask("from a where v0<16 take v0,w0 order down v0 first 3;");
        x.open(0, 1, 2, 64);
        change("set a v=v+1;");
        x.sweep(0);
        change("drop a;");
        x.sweep(0);
        x.pack(0, 0, 4);
        x.tally(0);
        due("1 1", "the zones", () -> x.runAt(0, 5) + " " + x.runAt(0, 6));
        runOn(0);
        due("0 16 16 1 0|6 16 16 8 0|7 16 3 2 0", "its tasks", () -> tasks(0));
        due("15 40|14 10|13 82", "its answer", () -> given(0, 2));
        due("0.5", "its share", () -> x.leftShare(0));
        due(0, "errors()", () -> x.errors());
        edge("section 7", "answers a question as of a moment");
        x.table(1);
        change("put a 1;");
        change("put a 2;");
        change("drop a where v=1;");
        ask("from a take v0;");
        for (int i = 0; i < 4; i++) {
            runOn(x.open(0, i, 64, 64));
        }
        due(" 1 1|2 2", "as of 0, 1, 2 and 3", () -> given(0, 1) + " " + given(1, 1) + " " + given(2, 1) + " " + given(3, 1));
        due("0 1 2 3", "the moments", () -> x.runAt(0, 8) + " " + x.runAt(1, 8) + " " + x.runAt(2, 8) + " " + x.runAt(3, 8));
    }

    private static void whatIsToldOfRuns() {
        edge("promise 33", "2 the task at hand (NONE if it is OVER), 4 the SPILLED rows of its tasks that are over, 5 and 6 of all sources that have a SCAN");
        x.table(1);
        x.fill(0, 20, 0, 1, 100, false);
        ask("from a where v0<16 take v0;");
        x.open(0, 1, 8, 2);
        due("0 0 0 0 0 1 1 3 1", "as it is opened", () -> runAt(0));
        x.step(0, 1);
        // P(16) is 3
        due("0 1 1 0 0 1 1 3 1", "the SCAN is over", () -> runAt(0));
        x.step(0, 7);
        due("0 8 1 0 0 1 1 3 1", "the ORDER is not", () -> runAt(0));
        x.step(0, 1);
        due("0 9 2 0 48 1 1 3 1", "the ORDER is", () -> runAt(0));
        x.turn(0);
        due("1 9 2 0 48 1 1 3 1", "STOPPED", () -> runAt(0));
        x.turn(0);
        x.step(0, 1);
        due("0 10 2 8 48 1 1 3 1", "eight rows", () -> runAt(0));
        x.step(0, 1);
        due("2 11 -1 16 48 1 1 3 1", "OVER", () -> runAt(0));
        edge("promise 33", "IllegalArgumentException if what is out of range");
        refused(BOUNDS, "no run at all", () -> x.runAt(0, 0));
        fiveRows();
        refused(ARGUMENT, "what 9", () -> x.runAt(0, 9));
        refused(ARGUMENT, "what -1", () -> x.runAt(0, -1));
        refused(ARGUMENT, "what of the least int", () -> x.runAt(0, LEAST_INT));
        refused(ARGUMENT, "what of the greatest int", () -> x.runAt(0, GREATEST_INT));
        refused(BOUNDS, "run 1", () -> x.runAt(1, 0));
        refused(BOUNDS, "run -1, what 9", () -> x.runAt(-1, 9));
        refused(BOUNDS, "run 30", () -> x.runAt(30, 0));
        refused(BOUNDS, "run of the least int", () -> x.runAt(LEAST_INT, 0));
        x.close(0);
        refused(BOUNDS, "closed, what 9", () -> x.runAt(0, 9));
    }

    private static void whatIsToldOfTasks() {
        edge("promise 34", "NoSuchElementException if what is not 0, and the task is not over");
        refused(BOUNDS, "no run at all", () -> x.taskAt(0, 0, 0));
        fiveRows();
        due("0 6 7", "the kinds", () -> x.taskAt(0, 0, 0) + " " + x.taskAt(0, 1, 0) + " " + x.taskAt(0, 2, 0));
        for (int what = 1; what < 5; what++) {
            int w = what;
            refused(NONE_SUCH, "the first task, what " + what, () -> x.taskAt(0, 0, w));
            refused(NONE_SUCH, "the last task, what " + what, () -> x.taskAt(0, 2, w));
        }
        x.step(0, 1);
        due("0 5 5 1 0", "the first task is over", () -> task(0, 0));
        refused(NONE_SUCH, "the next one is not", () -> x.taskAt(0, 1, 1));
        x.step(0, 4);
        refused(NONE_SUCH, "it has one step left", () -> x.taskAt(0, 1, 4));
        x.turn(0);
        refused(NONE_SUCH, "STOPPED", () -> x.taskAt(0, 1, 4));
        due("0 5 5 1 0", "STOPPED: the first task", () -> task(0, 0));
        x.turn(0);
        x.step(0, 1);
        due("6 5 5 5 0", "over", () -> task(0, 1));
        x.step(0, 4);
        refused(NONE_SUCH, "GIVE has one row left", () -> x.taskAt(0, 2, 2));
        x.step(0, 1);
        due("7 5 5 5 0", "GIVE", () -> task(0, 2));
        edge("promise 34", "IndexOutOfBoundsException, IllegalArgumentException, NoSuchElementException, in this order");
        fiveRows();
        refused(ARGUMENT, "what 5", () -> x.taskAt(0, 0, 5));
        refused(ARGUMENT, "what -1", () -> x.taskAt(0, 0, -1));
        refused(ARGUMENT, "what of the least int", () -> x.taskAt(0, 2, LEAST_INT));
        refused(ARGUMENT, "what of the greatest int", () -> x.taskAt(0, 2, GREATEST_INT));
        refused(BOUNDS, "task 3, what 5", () -> x.taskAt(0, 3, 5));
        refused(BOUNDS, "task -1", () -> x.taskAt(0, -1, 0));
        refused(BOUNDS, "task of the greatest int", () -> x.taskAt(0, GREATEST_INT, 1));
        refused(BOUNDS, "task of the least int", () -> x.taskAt(0, LEAST_INT, 1));
        refused(BOUNDS, "run 1", () -> x.taskAt(1, 0, 0));
        refused(BOUNDS, "run -1, what 5", () -> x.taskAt(-1, 0, 5));
        runOn(0);
        refused(BOUNDS, "OVER, task 3", () -> x.taskAt(0, 3, 1));
        edge("promise 34", "0 SCAN, 1 to 3 JOIN by x, h, m, 4 GROUP, 5 WINDOW, 6 ORDER, 7 GIVE, 8 JOIN by i");
        x.table(1);
        x.index(0, 0);
        ask("from a,a where v0=v1 take count;");
        ask("from a,a where v0=v1 take rank over(along v0);");
        String[] plans = {"(0x1)", "(0h1)", "(0m1)", "(0i1)"};
        String[] kinds = {"0 0 1", "0 0 2", "0 0 3", "0 8"};
        for (int i = 0; i < 4; i++) {
            int run = 2 * i;
            open(plans[i], 0, 1, 2);
            due(kinds[i] + " 4 6 7", "GROUP by " + plans[i], () -> kinds(run));
            open(plans[i], 1, 1, 2);
            due(kinds[i] + " 5 6 7", "WINDOW by " + plans[i], () -> kinds(run + 1));
        }
    }

    private static String kinds(int run) {
        StringBuilder all = new StringBuilder();
        for (int task = 0; task < x.runAt(run, 7); task++) {
            all.append(task > 0 ? " " : "").append(x.taskAt(run, task, 0));
        }
        return all.toString();
    }

    // ---- what runs give

    private static void givenRows() {
        edge("section 7", "each gives the next rows of the answer, as many as the batch, the last one what is left");
        x.table(1);
        x.fill(0, 7, 0, 1, 100, false);
        ask("from a take v0;");
        x.open(0, 1, 3, 64);
        x.step(0, 4);
        due("0 0", "nothing yet", () -> x.runAt(0, 2) == 2 ? x.runAt(0, 3) + " " + x.runAt(0, 0) : "");
        x.step(0, 1);
        due("0|1|2", "three", () -> given(0, 1));
        x.step(0, 1);
        due("0|1|2|3|4|5", "six", () -> given(0, 1));
        x.step(0, 1);
        due("0|1|2|3|4|5|6", "what is left", () -> given(0, 1));
        due(2, "OVER", () -> x.runAt(0, 0));
    }

    private static void rowsRefused() {
        for (boolean isAnswer : new boolean[] {false, true}) {
            edge(isAnswer ? "promise 36" : "promise 35", "IndexOutOfBoundsException if there is no such run or item; NoSuchElementException if the run did not give the row (yet)");
            refused(BOUNDS, "no run at all", () -> got(isAnswer, 0, 0, 0));
            x.table(2);
            change("put a 5,lack;");
            change("put a lack,6;");
            ask("from a take v0,w0;");
            x.open(0, 2, 1, 8);
            refused(NONE_SUCH, "nothing is given", () -> got(isAnswer, 0, 0, 0));
            x.step(0, 3);
            refused(NONE_SUCH, "nothing is given", () -> got(isAnswer, 0, 0, 1));
            x.step(0, 1);
            due(isAnswer ? "5 0" : "false true", "the row 0", () -> got(isAnswer, 0, 0, 0) + " " + got(isAnswer, 0, 0, 1));
            refused(NONE_SUCH, "the row 1, not yet", () -> got(isAnswer, 0, 1, 0));
            x.turn(0);
            due(isAnswer ? "5 0" : "false true", "STOPPED", () -> got(isAnswer, 0, 0, 0) + " " + got(isAnswer, 0, 0, 1));
            refused(NONE_SUCH, "STOPPED, the row 1", () -> got(isAnswer, 0, 1, 0));
            x.turn(0);
            x.step(0, 1);
            due(isAnswer ? "0 6" : "true false", "the row 1", () -> got(isAnswer, 0, 1, 0) + " " + got(isAnswer, 0, 1, 1));
            refused(NONE_SUCH, "the row 2", () -> got(isAnswer, 0, 2, 0));
            refused(NONE_SUCH, "the row -1", () -> got(isAnswer, 0, -1, 0));
            refused(NONE_SUCH, "the row of the greatest int", () -> got(isAnswer, 0, GREATEST_INT, 1));
            refused(NONE_SUCH, "the row of the least int", () -> got(isAnswer, 0, LEAST_INT, 1));
            refused(BOUNDS, "the item 2", () -> got(isAnswer, 0, 0, 2));
            refused(BOUNDS, "the item -1", () -> got(isAnswer, 0, 0, -1));
            refused(BOUNDS, "the item of the greatest int, the row 9", () -> got(isAnswer, 0, 9, GREATEST_INT));
            refused(BOUNDS, "the item of the least int, the row -1", () -> got(isAnswer, 0, -1, LEAST_INT));
            refused(BOUNDS, "run 1", () -> got(isAnswer, 1, 0, 0));
            refused(BOUNDS, "run -1", () -> got(isAnswer, -1, 9, 9));
            ask("from a where v0=99 take v0;");
            x.open(1, 2, 1, 8);
            refused(NONE_SUCH, "an answer without rows", () -> got(isAnswer, 1, 0, 0));
            refused(BOUNDS, "the item of the other question", () -> got(isAnswer, 1, 0, 1));
        }
    }

    private static Object got(boolean isAnswer, int run, int row, int item) {
        return isAnswer ? (Object) x.answer(run, row, item) : (Object) x.isLacking(run, row, item);
    }

    private static void leftShares() {
        edge("promise 52", "0.0f without zones");
        refused(BOUNDS, "no run at all", () -> x.leftShare(0));
        x.table(1);
        x.table(1);
        ask("from a take v0;");
        x.open(0, 0, 1, 2);
        due(0.0f, "without zones", () -> x.leftShare(0));
        x.fill(0, 48, 0, 1, 100, false);
        ask("from a where v0<32 take v0;");
        x.open(1, 1, 1, 2);
        due(1.0f / 3.0f, "one of three", () -> x.leftShare(1));
        x.open(1, 0, 1, 2);
        due(1.0f, "as of 0 all", () -> x.leftShare(2));
        due(0.0f, "of the run that was opened without zones", () -> x.leftShare(0));
        refused(BOUNDS, "run 3", () -> x.leftShare(3));
        refused(BOUNDS, "run -1", () -> x.leftShare(-1));
        edge("promise 52", "of all sources that have a SCAN");
        x.table(1);
        x.table(1);
        x.fill(0, 10, 0, 1, 100, false);
        x.fill(1, 64, 0, 1, 100, false);
        change("drop b where 31<v;");
        x.index(1, 0);
        ask("from a,b where v0=v1 and v1<16 take v0;");
        x.open(0, 3, 64, 64);
        open("(0x1)", 0, 64, 2);
        open("(0i1)", 0, 64, 2);
        due(3.0f / 5.0f, "both", () -> x.leftShare(1));
        due("3 2", "both", () -> x.runAt(1, 5) + " " + x.runAt(1, 6));
        due(0.0f, "the left one alone", () -> x.leftShare(2));
        due("0 1", "the left one alone", () -> x.runAt(2, 5) + " " + x.runAt(2, 6));
    }

    private static void checksums() {
        edge("promise 53", "the sum (0 at first) becomes, for each value that the run gave, 31 times the sum, and the value, and 1000003 if it is LACKING");
        refused(BOUNDS, "no run at all", () -> x.checksum(0));
        x.table(2);
        change("put a 5,lack;");
        change("put a -7,6;");
        ask("from a take v0,w0;");
        x.open(0, 2, 1, 8);
        due(0L, "nothing is given", () -> x.checksum(0));
        x.step(0, 4);
        due(5 * 31L + 1000003, "the row 0", () -> x.checksum(0));
        x.step(0, 1);
        due(((5 * 31L + 1000003) * 31 - 7) * 31 + 6, "both rows", () -> x.checksum(0));
        refused(BOUNDS, "run 1", () -> x.checksum(1));
        refused(BOUNDS, "run -1", () -> x.checksum(-1));
        refused(BOUNDS, "run of the greatest int", () -> x.checksum(GREATEST_INT));
        edge("promise 53", "as longs that go round");
        x.table(1);
        change("put a 1;");
        ask("from a take 65536*65536*65536*32768-1,65536*65536*65536*32768-1,2;");
        x.open(0, 1, 1, 2);
        runOn(0);
        due((Long.MAX_VALUE * 31 + Long.MAX_VALUE) * 31 + 2, "the sum", () -> x.checksum(0));
    }
}
