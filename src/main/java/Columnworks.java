import java.util.NoSuchElementException;

/** Questions on tables by columns; the document tells what each call does, promise by promise. */
public final class Columnworks {
    public static final int NONE = -1;
    public static final int PLAIN = 0, RUNS = 1, LIST = 2, FRAME = 3, STEPS = 4;
    public static final int GOING = 0, STOPPED = 1, OVER = 2;

    private static final int MOST_SIGNS = 200;
    private static final int MOST_TABLES = 4;
    private static final int MOST_COLUMNS = 5;
    private static final int MOST_VERSIONS = 128;
    private static final int ZONE = 16;
    private static final int MOST_ZONES = 8;
    private static final int MOST_SOURCES = 3;
    private static final int MOST_ITEMS = 5;
    private static final int MOST_ROWS = 500;
    private static final int MOST_QUESTIONS = 12;
    private static final int MOST_RUNS = 30;
    private static final int MOST_INDEXES = 6;
    private static final int MOST_KEPT = 4;
    private static final int MOST_WRITERS = 12;
    private static final int ALL_ROOM = 100;
    private static final int MOST_BATCH = 64;
    private static final int MILLION = 1000000;

    private final StringBuilder text = new StringBuilder();
    private final StringBuilder shown = new StringBuilder();
    private final Table[] tables = new Table[MOST_TABLES];
    private int tableCount = 0;
    private int moment = 0;
    private final Index[] indexes = new Index[MOST_INDEXES];
    private int indexCount = 0;
    private final Sentence[] questions = new Sentence[MOST_QUESTIONS];
    private int questionCount = 0;
    private final Run[] runs = new Run[MOST_RUNS];
    private int runCount = 0;
    private final Kept[] keeps = new Kept[MOST_KEPT];
    private int keepCount = 0;
    private final Writer[] writers = new Writer[MOST_WRITERS];
    private int writerCount = 0;
    private final Reader reader = new Reader(tables);
    private final Machine machine = new Machine(tables);
    private final Answers answers = new Answers(machine);
    private final Planner planner = new Planner(tables, indexes, machine);

    public Columnworks() {
    }

    // ---- the text

    public int type(long signs) throws IllegalArgumentException, IllegalStateException {
        int added = 0;
        for (int shift = 56; shift >= 0; shift -= 8) {
            int sign = (int) (signs >>> shift) & 255;
            if (sign != 0 && (sign < 32 || sign > 126)) {
                throw new IllegalArgumentException("a byte is no sign");
            }
            if (sign != 0) {
                added++;
            }
        }
        if (text.length() + added > MOST_SIGNS) {
            throw new IllegalStateException("the text would be too long");
        }
        for (int shift = 56; shift >= 0; shift -= 8) {
            int sign = (int) (signs >>> shift) & 255;
            if (sign != 0) {
                text.append((char) sign);
            }
        }
        return text.length();
    }

    public int wipe() {
        int length = text.length();
        text.setLength(0);
        return length;
    }

    public int fault(boolean isKind) {
        reader.read(text);
        return isKind ? reader.faultKind() : reader.faultPlace();
    }

    public int output(int index) {
        if (index < 0 || index >= shown.length()) {
            return NONE;
        }
        return shown.charAt(index);
    }

    // ---- tables

    public int table(int columns) throws IllegalArgumentException, IllegalStateException {
        if (columns < 1 || columns > MOST_COLUMNS) {
            throw new IllegalArgumentException("columns out of range");
        }
        if (tableCount >= MOST_TABLES) {
            throw new IllegalStateException("there are 4 tables");
        }
        tables[tableCount] = new Table(columns, MOST_VERSIONS, false);
        tableCount++;
        return tableCount - 1;
    }

    public int change() throws IllegalArgumentException, IllegalStateException {
        reader.read(text);
        Sentence told = reader.sentence;
        Table changed = tables[told.sourceTables[0]];
        if (!reader.hasRead(false) || changed == null) {
            throw new IllegalArgumentException("the text is no change");
        }
        int hits = machine.countHits(told, changed);
        int added = told.kind == Code.PUT ? 1 : told.kind == Code.SET ? hits : 0;
        if (changed.count + added > MOST_VERSIONS) {
            throw new IllegalStateException("the table would have too many versions");
        }
        int before = changed.count;
        moment++;
        machine.doChange(told, changed, moment);
        text.setLength(0);
        enterVersions(changed, before);
        lookAgain();
        return told.kind == Code.PUT ? 1 : hits;
    }

    public int fill(int table, int many, int start, int step, int modulo, boolean lacks)
            throws IndexOutOfBoundsException, IllegalArgumentException, IllegalStateException {
        Table filled = tableNumbered(table);
        if (many < 1 || many > 64 || start < 0 || start > MILLION || step < 0 || step > MILLION
                || modulo < 1 || modulo > MILLION) {
            throw new IllegalArgumentException("a number out of range");
        }
        int before = filled.count;
        if (before + many > MOST_VERSIONS) {
            throw new IllegalStateException("the table would have too many versions");
        }
        moment++;
        for (int i = 0; i < many; i++) {
            int place = filled.addVersion(moment);
            for (int j = 0; place >= 0 && j < filled.columns; j++) {
                long rest = ((long) start + (long) i * step + (long) j * i * i) % modulo;
                filled.putValue(place, j, rest, lacks && rest == modulo - 1);
            }
        }
        enterVersions(filled, before);
        lookAgain();
        return filled.count;
    }

    public int sweep(int table) throws IndexOutOfBoundsException {
        Table swept = tableNumbered(table);
        int gone = swept.dropDead();
        swept.since = moment;
        for (int i = 0; i < indexCount; i++) {
            if (indexes[i].of == swept) {
                indexes[i].rebuild();
            }
        }
        answers.forget();
        return gone;
    }

    public int moment() {
        return moment;
    }

    public int tableAt(int table, int what) throws IndexOutOfBoundsException, IllegalArgumentException {
        Table asked = tableNumbered(table);
        checkWhat(what, 4);
        switch (what) {
            case 0: return asked.columns;
            case 1: return asked.count;
            case 2: return asked.living(moment);
            case 3: return asked.zones();
            default: return asked.since;
        }
    }

    public int lived(int table, int place, boolean isDeath) throws IndexOutOfBoundsException {
        Table asked = tableNumbered(table);
        checkPlace(asked, place);
        return isDeath ? asked.died[place] : asked.born[place];
    }

    public boolean lacks(int table, int place, int column) throws IndexOutOfBoundsException {
        Table asked = tableWith(table, column);
        checkPlace(asked, place);
        return asked.isLack(place, column);
    }

    public long value(int table, int place, int column) throws IndexOutOfBoundsException {
        Table asked = tableWith(table, column);
        checkPlace(asked, place);
        return asked.valueAt(place, column);
    }

    // ---- zones, packing

    public int pack(int table, int column, int way) throws IndexOutOfBoundsException, IllegalArgumentException {
        Table packed = tableWith(table, column);
        if (way < NONE || way > STEPS) {
            throw new IllegalArgumentException("way out of range");
        }
        int before = packed.ways[column];
        packed.ways[column] = way;
        return before;
    }

    public int wayOf(int table, int column, int zone) throws IndexOutOfBoundsException {
        Table asked = tableWith(table, column);
        checkZone(asked, zone);
        return asked.chosenWay(column, zone);
    }

    public int sizeOf(int table, int column, int zone, int way)
            throws IndexOutOfBoundsException, IllegalArgumentException {
        Table asked = tableWith(table, column);
        checkZone(asked, zone);
        if (way < PLAIN || way > STEPS) {
            throw new IllegalArgumentException("way out of range");
        }
        return asked.bits(column, zone, way);
    }

    public long bound(int table, int column, int zone, boolean isGreatest)
            throws IndexOutOfBoundsException, NoSuchElementException {
        Table asked = tableWith(table, column);
        checkZone(asked, zone);
        int there = asked.gather(column, zone);
        if (there == 0) {
            throw new NoSuchElementException("all values are lacking");
        }
        return asked.extreme(there, isGreatest);
    }

    public int tally(int table) throws IndexOutOfBoundsException {
        Table tallied = tableNumbered(table);
        int sum = 0;
        for (int column = 0; column < tallied.columns; column++) {
            tallied.tallies[column] = tallied.unlikeValues(column, moment);
            sum += tallied.tallies[column];
        }
        return sum;
    }

    public int tallied(int table, int column) throws IndexOutOfBoundsException {
        return tableWith(table, column).tallies[column];
    }

    // ---- questions, programs

    public int ask() throws IllegalArgumentException, IllegalStateException {
        reader.read(text);
        if (!reader.hasRead(true)) {
            throw new IllegalArgumentException("the text is no question");
        }
        if (questionCount >= MOST_QUESTIONS) {
            throw new IllegalStateException("there are 12 questions");
        }
        questions[questionCount] = reader.handOver();
        questionCount++;
        text.setLength(0);
        return questionCount - 1;
    }

    public int questionAt(int question, int what) throws IndexOutOfBoundsException, IllegalArgumentException {
        Sentence asked = questionNumbered(question);
        checkWhat(what, 5);
        switch (what) {
            case 0: return asked.sources;
            case 1: return asked.conjuncts;
            case 2: return asked.items;
            case 3: return asked.keys;
            case 4: return asked.isGrouped ? 1 : 0;
            default: return asked.countEqualities();
        }
    }

    public int program(int question, int what, int index)
            throws IndexOutOfBoundsException, IllegalArgumentException, NoSuchElementException {
        Sentence asked = questionNumbered(question);
        checkWhat(what, 3);
        int there = what == 0 ? asked.conjuncts : what == 1 ? asked.items : what == 2 ? asked.keys
                : asked.withRoot == NONE ? 0 : 1;
        if (index < 0 || index >= there) {
            throw new NoSuchElementException("there is no such program");
        }
        shown.setLength(0);
        if (what == 1) {
            machine.spellItem(asked, index, shown);
        } else {
            int root = what == 0 ? asked.conjunctRoots[index] : what == 2 ? asked.keyRoot(index) : asked.withRoot;
            machine.spell(asked.code, root, shown);
        }
        return shown.length();
    }

    public int rows(int question, int moment)
            throws IndexOutOfBoundsException, IllegalArgumentException, IllegalStateException {
        Sentence asked = questionNumbered(question);
        checkMoment(moment);
        if (!answers.isAnswerable(asked, moment)) {
            throw new IllegalStateException("swept since, or too many rows");
        }
        return answers.solve(asked, moment);
    }

    // ---- plans

    public int leftOut(int question, int source, int moment, boolean isRead)
            throws IndexOutOfBoundsException, IllegalArgumentException {
        Sentence asked = questionNumbered(question);
        if (source < 0 || source >= asked.sources) {
            throw new IndexOutOfBoundsException("there is no such source");
        }
        checkMoment(moment);
        planner.prepare(asked, moment);
        return isRead ? planner.reads[source] : planner.shutZones[source];
    }

    public long estimate(int question, int set, int moment)
            throws IndexOutOfBoundsException, IllegalArgumentException {
        Sentence asked = questionNumbered(question);
        if (set < 1 || set >= 1 << asked.sources) {
            throw new IllegalArgumentException("no set of sources");
        }
        checkMoment(moment);
        planner.prepare(asked, moment);
        return planner.estimates[set];
    }

    public long cost(int question, int moment, int room)
            throws IndexOutOfBoundsException, IllegalArgumentException {
        Sentence asked = questionNumbered(question);
        checkMoment(moment);
        checkRoom(room);
        planner.prepare(asked, moment);
        if (!planner.isLawful(text)) {
            throw new IllegalArgumentException("no lawful plan");
        }
        return planner.costOfPlan(room);
    }

    public long best(int question, int moment, int room)
            throws IndexOutOfBoundsException, IllegalArgumentException {
        Sentence asked = questionNumbered(question);
        checkMoment(moment);
        checkRoom(room);
        planner.prepare(asked, moment);
        long least = planner.findBest(room);
        shown.setLength(0);
        for (int i = 0; i < planner.bestPlan.length(); i++) {
            shown.append(planner.bestPlan.charAt(i));
        }
        return least;
    }

    // ---- runs

    public int open(int question, int moment, int batch, int room)
            throws IndexOutOfBoundsException, IllegalArgumentException, IllegalStateException {
        Sentence asked = questionNumbered(question);
        checkMoment(moment);
        checkRoom(room);
        if (batch < 1 || batch > MOST_BATCH) {
            throw new IllegalArgumentException("batch out of range");
        }
        planner.prepare(asked, moment);
        if (text.length() > 0 && !planner.isLawful(text)) {
            throw new IllegalArgumentException("no lawful plan");
        }
        if (!answers.isAnswerable(asked, moment)) {
            throw new IllegalStateException("swept since, or too many rows");
        }
        if (runCount >= MOST_RUNS || roomsTaken() + room > ALL_ROOM) {
            throw new IllegalStateException("too many runs, or too little room");
        }
        if (text.length() == 0) {
            planner.findBest(room);
            planner.isLawful(planner.bestPlan);
        }
        answers.solve(asked, moment);
        Run opened = new Run(moment, batch, room);
        opened.copyAnswer(answers);
        planner.layTasks(opened, answers);
        opened.goOn();
        runs[runCount] = opened;
        runCount++;
        text.setLength(0);
        return runCount - 1;
    }

    public int step(int run, int steps)
            throws IndexOutOfBoundsException, IllegalArgumentException, IllegalStateException {
        Run stepped = runNumbered(run);
        if (steps < 1 || steps > 100000) {
            throw new IllegalArgumentException("steps out of range");
        }
        if (stepped.state != GOING) {
            throw new IllegalStateException("the run is not going");
        }
        return stepped.doSteps(steps);
    }

    public int turn(int run) throws IndexOutOfBoundsException, IllegalStateException {
        Run turned = runNumbered(run);
        if (turned.state == OVER) {
            throw new IllegalStateException("the run is over");
        }
        if (turned.state == STOPPED && roomsTaken() + turned.room > ALL_ROOM) {
            throw new IllegalStateException("too little room");
        }
        turned.state = turned.state == GOING ? STOPPED : GOING;
        return turned.state;
    }

    public int close(int run) throws IndexOutOfBoundsException {
        Run closed = runNumbered(run);
        runs[run] = null;
        return closed.state;
    }

    public int runAt(int run, int what) throws IndexOutOfBoundsException, IllegalArgumentException {
        Run asked = runNumbered(run);
        checkWhat(what, 8);
        switch (what) {
            case 0: return asked.state;
            case 1: return asked.stepsDone;
            case 2: return asked.state == OVER ? NONE : asked.task;
            case 3: return asked.given();
            case 4: return asked.spilledSoFar();
            case 5: return asked.zonesLeft;
            case 6: return asked.zonesAll - asked.zonesLeft;
            case 7: return asked.taskCount;
            default: return asked.moment;
        }
    }

    public int taskAt(int run, int task, int what)
            throws IndexOutOfBoundsException, IllegalArgumentException, NoSuchElementException {
        Run asked = runNumbered(run);
        if (task < 0 || task >= asked.taskCount) {
            throw new IndexOutOfBoundsException("there is no such task");
        }
        checkWhat(what, 4);
        if (what != 0 && task >= asked.task) {
            throw new NoSuchElementException("the task is not over");
        }
        return asked.taskPart(task, what);
    }

    public boolean isLacking(int run, int row, int item) throws IndexOutOfBoundsException, NoSuchElementException {
        Run asked = runNumbered(run);
        return asked.lacking[givenSpot(asked, row, item)];
    }

    public long answer(int run, int row, int item) throws IndexOutOfBoundsException, NoSuchElementException {
        Run asked = runNumbered(run);
        return asked.values[givenSpot(asked, row, item)];
    }

    // ---- indexes

    public int index(int table, int column) throws IndexOutOfBoundsException, IllegalStateException {
        Table of = tableWith(table, column);
        if (planner.findIndex(of, column) != null || indexCount >= MOST_INDEXES) {
            throw new IllegalStateException("the column has an index, or there are 6");
        }
        indexes[indexCount] = new Index(of, table, column);
        indexes[indexCount].rebuild();
        indexCount++;
        return indexCount - 1;
    }

    public int indexAt(int index, int what) throws IndexOutOfBoundsException, IllegalArgumentException {
        Index asked = indexNumbered(index);
        checkWhat(what, 3);
        switch (what) {
            case 0: return asked.number;
            case 1: return asked.column;
            case 2: return asked.count;
            default: return asked.levels;
        }
    }

    public int page(int index, int level, int page) throws IndexOutOfBoundsException, NoSuchElementException {
        Index asked = indexNumbered(index);
        if (level < 0 || level >= asked.levels || page < 0 || page >= asked.pageCounts[level]) {
            throw new NoSuchElementException("there is no such page");
        }
        return asked.pages[level][page];
    }

    public int entry(int index, int entry) throws IndexOutOfBoundsException, NoSuchElementException {
        Index asked = indexNumbered(index);
        if (entry < 0 || entry >= asked.count) {
            throw new NoSuchElementException("there is no such entry");
        }
        return asked.places[entry];
    }

    public int seek(int index, long value) throws IndexOutOfBoundsException {
        return indexNumbered(index).countLess(value);
    }

    // ---- kept questions

    public int keep(int question) throws IndexOutOfBoundsException, IllegalStateException {
        Sentence asked = questionNumbered(question);
        if (keepCount >= MOST_KEPT || !answers.isAnswerable(asked, moment)) {
            throw new IllegalStateException("too many rows, or 4 were kept");
        }
        keeps[keepCount] = new Kept(asked, question);
        keepCount++;
        return keepCount - 1;
    }

    public long keptAt(int kept, int what) throws IndexOutOfBoundsException, IllegalArgumentException {
        Kept asked = keptNumbered(kept);
        checkWhat(what, 3);
        switch (what) {
            case 0: return asked.isLost ? 1 : 0;
            case 1: return asked.isLost ? 0 : answers.solve(asked.question, moment);
            case 2: return asked.looked;
            default: return asked.number;
        }
    }

    public boolean keptLacks(int kept, int row, int item) throws IndexOutOfBoundsException, NoSuchElementException {
        Kept asked = keptNumbered(kept);
        checkKeptRow(asked, asked.isLost ? 0 : answers.solve(asked.question, moment), row, item);
        return answers.isLack(row, item);
    }

    public long kept(int kept, int row, int item) throws IndexOutOfBoundsException, NoSuchElementException {
        Kept asked = keptNumbered(kept);
        checkKeptRow(asked, asked.isLost ? 0 : answers.solve(asked.question, moment), row, item);
        return answers.valueAt(row, item);
    }

    // ---- writers

    public int begin(boolean isStrict) throws IllegalStateException {
        if (writerCount >= MOST_WRITERS) {
            throw new IllegalStateException("there were 12 writers");
        }
        writers[writerCount] = new Writer(moment, isStrict, tables);
        writerCount++;
        return writerCount - 1;
    }

    public int write(int writer) throws IndexOutOfBoundsException, IllegalArgumentException, IllegalStateException {
        Writer writing = writerNumbered(writer);
        reader.read(text);
        Sentence told = reader.sentence;
        if (!reader.hasRead(false)) {
            throw new IllegalArgumentException("the text is no change");
        }
        if (writing.state != Writer.OPEN) {
            throw new IllegalStateException("the writer is not open");
        }
        int number = told.sourceTables[0];
        Table view = writing.viewOf(number, tables[number]);
        if (view == null) {
            throw new IllegalArgumentException("there is no such table");
        }
        if (told.kind == Code.PUT && view.count >= MOST_VERSIONS) {
            throw new IllegalStateException("the view would have too many versions");
        }
        int hits = machine.doChange(told, view, writing.start);
        writing.noteEnded(number, view);
        text.setLength(0);
        boolean isPut = told.kind == Code.PUT;
        if (writing.isStrict && !isPut) {
            writing.noteDone(reader.handOver());
        }
        return isPut ? 1 : hits;
    }

    public int finish(int writer, boolean isGiven) throws IndexOutOfBoundsException, IllegalStateException {
        Writer finished = writerNumbered(writer);
        if (finished.state != Writer.OPEN) {
            throw new IllegalStateException("the writer is not open");
        }
        if (isGiven) {
            finished.state = Writer.GIVEN_UP;
        } else if (finished.isOvertaken(tables) || isStrictlyOther(finished)) {
            finished.state = Writer.REFUSED;
        } else {
            for (int i = 0; i < tableCount; i++) {
                if (tables[i].count + finished.putCount(i) > MOST_VERSIONS) {
                    throw new IllegalStateException("a table would have too many versions");
                }
            }
            comeThrough(finished);
        }
        return finished.state;
    }

    public int writerAt(int writer, int what) throws IndexOutOfBoundsException, IllegalArgumentException {
        Writer asked = writerNumbered(writer);
        checkWhat(what, 3);
        int sum = 0;
        switch (what) {
            case 0: return asked.state;
            case 1: return asked.start;
            case 2:
                for (int i = 0; i < MOST_TABLES; i++) {
                    sum += asked.endedCounts[i];
                }
                return sum;
            default:
                for (int i = 0; i < MOST_TABLES; i++) {
                    sum += asked.putCount(i);
                }
                return sum;
        }
    }

    public long view(int writer, int table, int row, int column)
            throws IndexOutOfBoundsException, IllegalStateException, NoSuchElementException {
        Writer asked = writerNumbered(writer);
        Table real = row == NONE ? tableNumbered(table) : tableWith(table, column);
        if (asked.state != Writer.OPEN) {
            throw new IllegalStateException("the writer is not open");
        }
        Table viewed = asked.viewOf(table, real);
        int there = viewed == null ? 0 : viewed.count;
        if (row == NONE) {
            return there;
        }
        if (viewed == null || row < 0 || row >= there) {
            throw new NoSuchElementException("the view has no such version");
        }
        return viewed.valueAt(row, column);
    }

    // ---- measures

    public double meanSize(int table) throws IndexOutOfBoundsException {
        Table asked = tableNumbered(table);
        long bits = 0;
        for (int column = 0; column < asked.columns; column++) {
            for (int zone = 0; zone < asked.zones(); zone++) {
                bits += asked.bits(column, zone, asked.chosenWay(column, zone));
            }
        }
        int many = asked.count * asked.columns;
        return many == 0 ? 0.0 : (double) bits / (double) many;
    }

    public float leftShare(int run) throws IndexOutOfBoundsException {
        Run asked = runNumbered(run);
        return asked.zonesAll == 0 ? 0.0f : (float) asked.zonesLeft / (float) asked.zonesAll;
    }

    public long checksum(int run) throws IndexOutOfBoundsException {
        Run asked = runNumbered(run);
        return asked.sumOf(asked.given());
    }

    public int errors() {
        int wrong = 0;
        if (!isPackedWell()) {
            wrong++;
        }
        if (!isLeftOutWell()) {
            wrong++;
        }
        if (!isPlannedWell()) {
            wrong++;
        }
        if (!isGivenWell()) {
            wrong++;
        }
        if (roomsTaken() > ALL_ROOM) {
            wrong++;
        }
        if (!isKeptWell()) {
            wrong++;
        }
        if (!isIndexedWell()) {
            wrong++;
        }
        if (!isViewedWell()) {
            wrong++;
        }
        return wrong;
    }

    // ---- what the calls above share

    private void enterVersions(Table changed, int before) {
        for (int i = 0; i < indexCount; i++) {
            for (int place = before; indexes[i].of == changed && place < changed.count; place++) {
                indexes[i].enter(place);
            }
        }
    }

    /** Behind each change: the answer at hand may be old, and kept questions are looked at. */
    private void lookAgain() {
        answers.forget();
        for (int i = 0; i < keepCount; i++) {
            Kept kept = keeps[i];
            if (!kept.isLost && !answers.isAnswerable(kept.question, moment)) {
                kept.isLost = true;
            }
            if (!kept.isLost) {
                kept.lookAt(tables, moment);
            }
        }
    }

    private void comeThrough(Writer through) {
        moment++;
        for (int i = 0; i < tableCount; i++) {
            int before = tables[i].count;
            through.passOn(i, tables[i], moment);
            enterVersions(tables[i], before);
        }
        through.state = Writer.THROUGH;
        lookAgain();
    }

    /**
     * Versions change each for itself, and those alive as of the START do again what they did; so what is done
     * anew ends other versions only if it ends one that was born since.
     */
    private boolean isStrictlyOther(Writer writer) {
        for (int i = 0; i < writer.doneCount; i++) {
            Sentence told = writer.done[i];
            Table real = tables[told.sourceTables[0]];
            for (int place = 0; real != null && place < real.count; place++) {
                if (real.born[place] > writer.start && real.died[place] == NONE
                        && machine.isHit(told, real, place)) {
                    return true;
                }
            }
        }
        return false;
    }

    private int roomsTaken() {
        int sum = 0;
        for (int i = 0; i < runCount; i++) {
            if (runs[i] != null && runs[i].state == GOING) {
                sum += runs[i].room;
            }
        }
        return sum;
    }

    private int givenSpot(Run asked, int row, int item) {
        if (item < 0 || item >= asked.items) {
            throw new IndexOutOfBoundsException("there is no such item");
        }
        if (row < 0 || row >= asked.given()) {
            throw new NoSuchElementException("the row is not given");
        }
        return row * asked.items + item;
    }

    private void checkKeptRow(Kept asked, int there, int row, int item) {
        if (item < 0 || item >= asked.question.items) {
            throw new IndexOutOfBoundsException("there is no such item");
        }
        if (row < 0 || row >= there) {
            throw new NoSuchElementException("there is no such row");
        }
    }

    // ---- what is there

    private Table tableNumbered(int table) {
        if (table < 0 || table >= tableCount) {
            throw new IndexOutOfBoundsException("there is no such table");
        }
        return tables[table];
    }

    private Table tableWith(int table, int column) {
        if (table < 0 || table >= tableCount || column < 0 || column >= tables[table].columns) {
            throw new IndexOutOfBoundsException("there is no such table or column");
        }
        return tables[table];
    }

    private Sentence questionNumbered(int question) {
        if (question < 0 || question >= questionCount) {
            throw new IndexOutOfBoundsException("there is no such question");
        }
        return questions[question];
    }

    private Run runNumbered(int run) {
        if (run < 0 || run >= runCount || runs[run] == null) {
            throw new IndexOutOfBoundsException("there is no such run");
        }
        return runs[run];
    }

    private Index indexNumbered(int index) {
        if (index < 0 || index >= indexCount) {
            throw new IndexOutOfBoundsException("there is no such index");
        }
        return indexes[index];
    }

    private Kept keptNumbered(int kept) {
        if (kept < 0 || kept >= keepCount) {
            throw new IndexOutOfBoundsException("there is no such kept question");
        }
        return keeps[kept];
    }

    private Writer writerNumbered(int writer) {
        if (writer < 0 || writer >= writerCount) {
            throw new IndexOutOfBoundsException("there is no such writer");
        }
        return writers[writer];
    }

    private void checkPlace(Table asked, int place) {
        if (place < 0 || place >= asked.count) {
            throw new IndexOutOfBoundsException("there is no such place");
        }
    }

    private void checkZone(Table asked, int zone) {
        if (zone < 0 || zone >= asked.zones()) {
            throw new IndexOutOfBoundsException("there is no such zone");
        }
    }

    private void checkWhat(int what, int greatest) {
        if (what < 0 || what > greatest) {
            throw new IllegalArgumentException("what out of range");
        }
    }

    private void checkMoment(int asked) {
        if (asked < 0 || asked > moment) {
            throw new IllegalArgumentException("moment out of range");
        }
    }

    private void checkRoom(int room) {
        if (room < 2 || room > 64) {
            throw new IllegalArgumentException("room out of range");
        }
    }

    // ---- the checks of errors()

    private boolean isPackedWell() {
        for (int i = 0; i < tableCount; i++) {
            for (int column = 0; column < tables[i].columns; column++) {
                for (int zone = 0; zone < tables[i].zones(); zone++) {
                    if (!tables[i].isZoneWell(column, zone)) {
                        return false;
                    }
                }
            }
        }
        return true;
    }

    private boolean isLeftOutWell() {
        for (int i = 0; i < questionCount; i++) {
            Sentence asked = questions[i];
            if (!answers.isAnswerable(asked, moment)) {
                continue;
            }
            planner.prepare(asked, moment);
            machine.prepare(asked, moment);
            int many = machine.collectRows(asked);
            for (int row = 0; row < many; row++) {
                machine.standAt(row);
                if (planner.isAnyShut(machine.at)) {
                    return false;
                }
            }
        }
        return true;
    }

    private boolean isPlannedWell() {
        for (int i = 0; i < questionCount; i++) {
            if (answers.isAnswerable(questions[i], moment)) {
                planner.prepare(questions[i], moment);
                if (!planner.isLeast(planner.findBest(8), 8)) {
                    return false;
                }
            }
        }
        return true;
    }

    private boolean isGivenWell() {
        for (int i = 0; i < runCount; i++) {
            if (runs[i] != null && !runs[i].isWell()) {
                return false;
            }
        }
        return true;
    }

    /** A kept answer is worked out anew, by section 4, as it is asked for; so it is well if it can be worked out. */
    private boolean isKeptWell() {
        for (int i = 0; i < keepCount; i++) {
            if (!keeps[i].isLost && !answers.isAnswerable(keeps[i].question, moment)) {
                return false;
            }
        }
        return true;
    }

    private boolean isIndexedWell() {
        for (int i = 0; i < indexCount; i++) {
            if (!indexes[i].isOrdered() || !indexes[i].isPagedWell()) {
                return false;
            }
        }
        return true;
    }

    private boolean isViewedWell() {
        for (int i = 0; i < writerCount; i++) {
            if (writers[i].state == Writer.OPEN && !writers[i].isWell()) {
                return false;
            }
        }
        return true;
    }

    /** The versions of a table, or of a writer's view of one, and how its columns are packed. */
    private static final class Table {
        final int columns;
        final boolean isView;
        int count = 0;
        int since = 0;
        private int made = 0;
        private final long[] values;
        private final boolean[] lacking;
        final int[] born;
        final int[] died;
        /** A version keeps its name wherever it is moved; one that a writer put has none. */
        final int[] names;
        final int[] tallies = {10, 10, 10, 10, 10};
        final int[] ways = {NONE, NONE, NONE, NONE, NONE};
        private final long[] zoneValues = new long[ZONE];
        private final long[] known = new long[MOST_VERSIONS];
        private final long[] again = new long[ZONE];

        Table(int columns, int most, boolean isView) {
            this.columns = columns;
            this.isView = isView;
            values = new long[most * columns];
            lacking = new boolean[most * columns];
            born = new int[most];
            died = new int[most];
            names = new int[most];
        }

        /** Puts a version behind the last one, with LACKING values; returns its place, or NONE without room. */
        int addVersion(int bornAt) {
            if (count >= born.length) {
                return NONE;
            }
            born[count] = bornAt;
            died[count] = NONE;
            names[count] = isView ? NONE : made;
            made++;
            for (int column = 0; column < columns; column++) {
                putValue(count, column, 0, true);
            }
            count++;
            return count - 1;
        }

        /** Puts a version of a table of as many columns behind the last one. */
        int addLike(Table other, int otherPlace, int bornAt) {
            int place = addVersion(bornAt);
            for (int column = 0; place >= 0 && column < columns; column++) {
                putValue(place, column, other.valueAt(otherPlace, column), other.isLack(otherPlace, column));
            }
            return place;
        }

        void putValue(int place, int column, long told, boolean isLack) {
            if (place >= 0 && place < born.length && column >= 0 && column < columns) {
                values[place * columns + column] = isLack ? 0 : told;
                lacking[place * columns + column] = isLack;
            }
        }

        long valueAt(int place, int column) {
            boolean isThere = place >= 0 && place < born.length && column >= 0 && column < columns;
            return isThere ? values[place * columns + column] : 0;
        }

        boolean isLack(int place, int column) {
            boolean isThere = place >= 0 && place < born.length && column >= 0 && column < columns;
            return !isThere || lacking[place * columns + column];
        }

        boolean isAlive(int place, int moment) {
            return place >= 0 && place < count && born[place] <= moment
                    && (died[place] == NONE || died[place] > moment);
        }

        int living(int moment) {
            int sum = 0;
            for (int place = 0; place < count; place++) {
                if (isAlive(place, moment)) {
                    sum++;
                }
            }
            return sum;
        }

        int countAt(int moment, boolean isDeath) {
            int sum = 0;
            for (int place = 0; place < count; place++) {
                if ((isDeath ? died[place] : born[place]) == moment) {
                    sum++;
                }
            }
            return sum;
        }

        int placeOf(int name) {
            for (int place = 0; place < count; place++) {
                if (names[place] == name) {
                    return place;
                }
            }
            return NONE;
        }

        /** Takes the dead versions out; returns how many. */
        int dropDead() {
            int left = 0;
            for (int place = 0; place < count; place++) {
                if (died[place] == NONE) {
                    moveUp(place, left);
                    left++;
                }
            }
            int gone = count - left;
            count = left;
            return gone;
        }

        private void moveUp(int from, int to) {
            for (int column = 0; column < columns; column++) {
                putValue(to, column, valueAt(from, column), isLack(from, column));
            }
            born[to] = born[from];
            died[to] = died[from];
            names[to] = names[from];
        }

        int zones() {
            return (count + ZONE - 1) / ZONE;
        }

        private int zoneSize(int zone) {
            int left = count - zone * ZONE;
            return left < 0 ? 0 : left > ZONE ? ZONE : left;
        }

        /** Gathers the values of a zone that are there; returns how many. */
        int gather(int column, int zone) {
            int there = 0;
            int size = zoneSize(zone);
            for (int i = 0; i < size; i++) {
                if (!isLack(zone * ZONE + i, column)) {
                    zoneValues[there] = valueAt(zone * ZONE + i, column);
                    there++;
                }
            }
            return there;
        }

        /** The least or the greatest one of the values gathered. */
        long extreme(int there, boolean isGreatest) {
            long found = zoneValues[0];
            for (int i = 1; i < there && i < ZONE; i++) {
                found = isGreatest ? Math.max(found, zoneValues[i]) : Math.min(found, zoneValues[i]);
            }
            return found;
        }

        /** The least or the greatest step between the values gathered; 0 if there is none. */
        private long extremeStep(int there, boolean isGreatest) {
            long found = there > 1 ? zoneValues[1] - zoneValues[0] : 0;
            for (int i = 2; i < there && i < ZONE; i++) {
                long step = zoneValues[i] - zoneValues[i - 1];
                found = isGreatest ? Math.max(found, step) : Math.min(found, step);
            }
            return found;
        }

        private int stretches(int column, int zone) {
            int sum = 0;
            int size = zoneSize(zone);
            for (int i = 0; i < size; i++) {
                if (i == 0 || !isLikeAhead(zone * ZONE + i, column)) {
                    sum++;
                }
            }
            return sum;
        }

        private boolean isLikeAhead(int place, int column) {
            return isLack(place, column) == isLack(place - 1, column)
                    && valueAt(place, column) == valueAt(place - 1, column);
        }

        /** Lists the unlike ones of the values gathered; returns how many. */
        private int listKnown(int there) {
            int unlike = 0;
            for (int i = 0; i < there && i < ZONE; i++) {
                if (knownSpot(zoneValues[i], unlike) == NONE) {
                    known[unlike] = zoneValues[i];
                    unlike++;
                }
            }
            return unlike;
        }

        private int knownSpot(long sought, int unlike) {
            for (int i = 0; i < unlike && i < known.length; i++) {
                if (known[i] == sought) {
                    return i;
                }
            }
            return NONE;
        }

        int unlikeValues(int column, int moment) {
            int unlike = 0;
            for (int place = 0; place < count && unlike < known.length; place++) {
                if (isAlive(place, moment) && !isLack(place, column)
                        && knownSpot(valueAt(place, column), unlike) == NONE) {
                    known[unlike] = valueAt(place, column);
                    unlike++;
                }
            }
            return unlike;
        }

        static int digits(long number) {
            int sum = 0;
            long rest = number;
            for (int i = 0; i < 64 && rest != 0; i++) {
                rest >>>= 1;
                sum++;
            }
            return sum;
        }

        int bits(int column, int zone, int way) {
            int there = gather(column, zone);
            int size = zoneSize(zone);
            int mask = there < size ? size : 0;
            if (way == RUNS) {
                return 70 * stretches(column, zone);
            }
            if (way == PLAIN) {
                return mask + 64 * there;
            }
            if (there == 0) {
                return mask;
            }
            if (way == LIST) {
                int unlike = listKnown(there);
                return mask + 64 * unlike + there * digits(unlike - 1);
            }
            if (way == FRAME) {
                return mask + 70 + there * digits(extreme(there, true) - extreme(there, false));
            }
            return mask + 134 + (there - 1) * digits(extremeStep(there, true) - extremeStep(there, false));
        }

        int leastWay(int column, int zone) {
            int least = PLAIN;
            for (int way = RUNS; way <= STEPS; way++) {
                if (bits(column, zone, way) < bits(column, zone, least)) {
                    least = way;
                }
            }
            return least;
        }

        int chosenWay(int column, int zone) {
            boolean isTold = column >= 0 && column < columns && ways[column] != NONE;
            return isTold ? ways[column] : leastWay(column, zone);
        }

        /** Whether each way gives the zone's values again, and none is of a lesser size than the one chosen. */
        boolean isZoneWell(int column, int zone) {
            int least = bits(column, zone, leastWay(column, zone));
            for (int way = PLAIN; way <= STEPS; way++) {
                if (bits(column, zone, way) < least) {
                    return false;
                }
                int there = gather(column, zone);
                // what an earlier way gave must not count for this one
                for (int i = 0; i < there && i < ZONE; i++) {
                    again[i] = ~zoneValues[i];
                }
                readAgain(column, zone, way, there);
                for (int i = 0; i < there && i < ZONE; i++) {
                    if (again[i] != zoneValues[i]) {
                        return false;
                    }
                }
            }
            return true;
        }

        /** Packs the values gathered by a way, with as many digits as bits() counts, and reads them again. */
        private void readAgain(int column, int zone, int way, int there) {
            boolean isSteps = way == STEPS;
            long least = isSteps ? extremeStep(there, false) : extreme(there, false);
            long greatest = isSteps ? extremeStep(there, true) : extreme(there, true);
            int unlike = way == LIST ? listKnown(there) : 0;
            int width = digits(way == LIST ? unlike - 1 : greatest - least);
            long mask = width == 0 ? 0 : -1L >>> 64 - width;
            for (int i = 0; i < there && i < ZONE; i++) {
                long packed = zoneValues[i];
                if (way == LIST) {
                    int spot = (int) (knownSpot(packed, unlike) & mask);
                    again[i] = spot < unlike ? known[spot] : ~packed;
                } else if (way == FRAME) {
                    again[i] = least + (packed - least & mask);
                } else if (isSteps && i > 0) {
                    long code = packed - zoneValues[i - 1] - least & mask;
                    again[i] = again[i - 1] + least + code;
                } else {
                    again[i] = packed;
                }
            }
            if (way == RUNS) {
                readStretches(column, zone);
            }
        }

        /** Each value of a stretch is read from the stretch's first one. */
        private void readStretches(int column, int zone) {
            int there = 0;
            int head = zone * ZONE;
            int size = zoneSize(zone);
            for (int i = 0; i < size; i++) {
                int place = zone * ZONE + i;
                if (i > 0 && !isLikeAhead(place, column)) {
                    head = place;
                }
                if (!isLack(head, column) && there < ZONE) {
                    again[there] = valueAt(head, column);
                    there++;
                }
            }
        }
    }

    /** The entries of a column's index, in pages by levels. */
    private static final class Index {
        private static final int MOST_LEVELS = 5;
        private static final int MOST_PAGES = 40;
        private static final int FULL = 9;
        private static final int STAYING = 4;

        final Table of;
        final int number;
        final int column;
        int count = 0;
        int levels = 1;
        final int[] places = new int[MOST_VERSIONS];
        final int[][] pages = new int[MOST_LEVELS][MOST_PAGES];
        final int[] pageCounts = new int[MOST_LEVELS];

        Index(Table of, int number, int column) {
            this.of = of;
            this.number = number;
            this.column = column;
        }

        /** Puts the entries anew, by the places of their versions. */
        void rebuild() {
            count = 0;
            levels = 1;
            pageCounts[0] = 1;
            pages[0][0] = 0;
            for (int place = 0; place < of.count; place++) {
                enter(place);
            }
        }

        void enter(int place) {
            if (of.isLack(place, column) || count >= MOST_VERSIONS) {
                return;
            }
            int spot = 0;
            for (int i = 0; i < count && !isAhead(place, places[i]); i++) {
                spot++;
            }
            for (int i = count; i > spot; i--) {
                places[i] = places[i - 1];
            }
            places[spot] = place;
            count++;
            int page = lastPageAhead(0, spot);
            pages[0][page]++;
            cutUp(page);
        }

        /** By the values, of like ones by the places. */
        private boolean isAhead(int place, int other) {
            long mine = of.valueAt(place, column);
            long others = of.valueAt(other, column);
            return mine < others || mine == others && place < other;
        }

        /** The last page of a level that begins ahead of a spot; the first one, if there is none. */
        private int lastPageAhead(int level, int spot) {
            int begins = 0;
            int found = 0;
            for (int page = 0; page < pageCounts[level] && page < MOST_PAGES; page++) {
                if (begins < spot) {
                    found = page;
                }
                begins += pages[level][page];
            }
            return found;
        }

        /** Cuts a page of the level 0, and those above it, as long as one is full. */
        private void cutUp(int first) {
            int page = first;
            for (int level = 0; level < levels && level < MOST_LEVELS; level++) {
                if (pages[level][page] < FULL || pageCounts[level] >= MOST_PAGES) {
                    return;
                }
                for (int i = pageCounts[level]; i > page + 1; i--) {
                    pages[level][i] = pages[level][i - 1];
                }
                pages[level][page + 1] = pages[level][page] - STAYING;
                pages[level][page] = STAYING;
                pageCounts[level]++;
                if (level + 1 >= levels) {
                    addLevel();
                    return;
                }
                page = lastPageAhead(level + 1, page + 1);
                pages[level + 1][page]++;
            }
        }

        private void addLevel() {
            if (levels < MOST_LEVELS) {
                pageCounts[levels] = 1;
                pages[levels][0] = pageCounts[levels - 1];
                levels++;
            }
        }

        int countLess(long bound) {
            int sum = 0;
            for (int i = 0; i < count; i++) {
                if (of.valueAt(places[i], column) < bound) {
                    sum++;
                }
            }
            return sum;
        }

        int countLike(long sought) {
            int sum = 0;
            for (int i = 0; i < count; i++) {
                if (of.valueAt(places[i], column) == sought) {
                    sum++;
                }
            }
            return sum;
        }

        boolean isOrdered() {
            int there = 0;
            for (int place = 0; place < of.count; place++) {
                if (!of.isLack(place, column)) {
                    there++;
                }
            }
            for (int i = 0; i < count; i++) {
                if (of.isLack(places[i], column) || i > 0 && !isAhead(places[i - 1], places[i])) {
                    return false;
                }
            }
            return there == count;
        }

        boolean isPagedWell() {
            for (int level = 0; level < levels && level < MOST_LEVELS; level++) {
                int sum = 0;
                for (int page = 0; page < pageCounts[level] && page < MOST_PAGES; page++) {
                    if (pages[level][page] >= FULL || pages[level][page] < 1 && count > 0) {
                        return false;
                    }
                    sum += pages[level][page];
                }
                int below = level == 0 ? count : pageCounts[level - 1];
                if (sum != below || pageCounts[level] == 1 != (level == levels - 1)) {
                    return false;
                }
            }
            return true;
        }
    }

    /**
     * Sums and tests as a row of parts, each behind the parts that it is made of. A sign's kind is its code. An
     * inner question stands between its FROM and its SOME or IN, the sum of an aggregate between a BEGIN and its word.
     */
    private static final class Code {
        static final int HALT = 0, NUMBER = 1, WORD = 2, TABLE = 3, COLUMN = 4, REF = 5, END = 6, NO_TOKEN = 7;
        static final int LESS_OR_LIKE = 200, UNLIKE = 201, MINUS = 202, BEGIN = 203;
        static final int FIRST_WORD = 300;
        static final int PUT = 300, SET = 301, DROP = 302, WHERE = 303, LACK = 304, FROM = 305, BY = 306, WITH = 307;
        static final int TAKE = 308, ORDER = 309, FIRST = 310, RANK = 311, WORD_OVER = 312, RUN = 313, ALONG = 314;
        static final int DOWN = 315, OR = 316, AND = 317, NOT = 318, LACKS = 319, SOME = 320, IN = 321;
        static final int COUNT = 322, TOTAL = 323, LEAST = 324, MOST = 325;
        static final int WORDS = 26;
        static final int WIDTH = 5;
        /** The words from FIRST_WORD on, each with blanks behind it up to the width. */
        static final String SPELLED =
                "put  set  drop wherelack from by   with take orderfirstrank over run  alongdown or   and  not  lackssome in   counttotalleastmost ";

        private static final int MOST_PARTS = 208;
        private static final int MOST_INNER = 16;
        /** What is told of an inner question: its first source, its tables, the ends of its test, its sum, itself. */
        static final int INNER_FIRST = 0, INNER_TABLES = 1, INNER_TABLE = 2, INNER_TEST = 4, INNER_TAKE = 5, INNER_END = 6;
        private static final int INNER_PARTS = 7;

        final int[] op = new int[MOST_PARTS];
        /** Of a ref its source times 5 and its column, of a FROM its inner question, of a BEGIN its aggregate. */
        final int[] arg = new int[MOST_PARTS];
        final long[] number = new long[MOST_PARTS];
        final int[] start = new int[MOST_PARTS];
        final boolean[] isConstant = new boolean[MOST_PARTS];
        /** Whether it is part of a constant one. */
        final boolean[] isCovered = new boolean[MOST_PARTS];
        final boolean[] isWrapped = new boolean[MOST_PARTS];
        final int[] innerParts = new int[MOST_INNER * INNER_PARTS];
        int size = 0;
        int inners = 0;

        void clear() {
            size = 0;
            inners = 0;
        }

        int last() {
            return size - 1;
        }

        private void add(int kind, int part, long constant, int from, boolean isFixed) {
            if (size >= MOST_PARTS) {
                return;
            }
            op[size] = kind;
            arg[size] = part;
            number[size] = constant;
            start[size] = from < 0 || from > size ? size : from;
            isConstant[size] = isFixed;
            isCovered[size] = false;
            isWrapped[size] = false;
            for (int i = start[size]; isFixed && i < size; i++) {
                isCovered[i] = true;
            }
            size++;
        }

        void addNumber(long constant) {
            add(NUMBER, 0, constant, size, true);
        }

        void addLeaf(int kind, int part) {
            add(kind, part, 0, size, false);
        }

        void addUnary(int kind) {
            if (size > 0) {
                add(kind, 0, 0, start[size - 1], isConstant[size - 1]);
            }
        }

        void addBinary(int kind) {
            int left = leftOf(size);
            if (left >= 0) {
                add(kind, 0, 0, start[left], isConstant[left] && isConstant[size - 1]);
            }
        }

        /** The end of the first one of the two parts ahead of a place; NONE if there aren't two. */
        int leftOf(int root) {
            return root < 1 || root > size ? NONE : start[root - 1] - 1;
        }

        void addAggregate(int kind, int begin) {
            if (begin >= 0 && begin < size) {
                arg[begin] = size;
                add(kind, 0, 0, begin, false);
            }
        }

        /** Ends the inner question that the FROM at a place began. */
        void addInner(int kind, int from, int test, int take) {
            if (from < 0 || from >= size || inners >= MOST_INNER) {
                return;
            }
            arg[from] = inners;
            tellInner(INNER_TEST, test);
            tellInner(INNER_TAKE, take);
            tellInner(INNER_END, size);
            int begin = kind == IN && from > 0 ? start[from - 1] : from;
            inners++;
            add(kind, 0, 0, begin, false);
        }

        /** Tells something of the inner question that is being read. */
        void tellInner(int part, int told) {
            if (inners < MOST_INNER && part >= 0 && part < INNER_PARTS) {
                innerParts[inners * INNER_PARTS + part] = told;
            }
        }

        int innerPart(int inner, int part) {
            boolean isThere = inner >= 0 && inner < inners && part >= 0 && part < INNER_PARTS;
            return isThere ? innerParts[inner * INNER_PARTS + part] : NONE;
        }

        void wrapLast() {
            if (size > 0) {
                isWrapped[size - 1] = true;
            }
        }

        boolean isBareRef(int root) {
            return root >= 0 && root < size && op[root] == REF && !isWrapped[root];
        }

        boolean isFixed(int root) {
            return root >= 0 && root < size && isConstant[root];
        }
    }

    /** A change or a question, as it was read. A change's table is its source 0, the sum of set its item 0. */
    private static final class Sentence {
        static final int MOST_CONJUNCTS = 64;
        static final int KIND = 0, ROOT = 1, SPAN = 2, SPAN_REF = 3, ALONG = 6;
        static final int ITEM_PARTS = 7;

        int kind = Code.HALT;
        int column = 0;
        int testRoot = NONE;
        final long[] putValues = new long[MOST_COLUMNS];
        final boolean[] putLacks = new boolean[MOST_COLUMNS];
        int sources = 0;
        final int[] sourceTables = new int[MOST_SOURCES];
        int conjuncts = 0;
        final int[] conjunctRoots = new int[MOST_CONJUNCTS];
        /** The question's own sources that a conjunct has refs of, a bit for each. */
        final int[] conjunctSets = new int[MOST_CONJUNCTS];
        int bys = 0;
        final int[] byRefs = new int[MOST_SOURCES];
        int withRoot = NONE;
        int items = 0;
        final int[] itemParts = new int[MOST_ITEMS * ITEM_PARTS];
        int keys = 0;
        final int[] keyParts = new int[6];
        int first = NONE;
        boolean isGrouped = false;
        final Code code = new Code();

        void clear() {
            kind = Code.HALT;
            column = 0;
            testRoot = NONE;
            sources = 0;
            sourceTables[0] = 0;
            conjuncts = 0;
            bys = 0;
            withRoot = NONE;
            items = 0;
            keys = 0;
            first = NONE;
            isGrouped = false;
            code.clear();
        }

        int itemPart(int item, int part) {
            boolean isThere = item >= 0 && item < MOST_ITEMS && part >= 0 && part < ITEM_PARTS;
            return isThere ? itemParts[item * ITEM_PARTS + part] : NONE;
        }

        void tellItem(int part, int told) {
            if (items < MOST_ITEMS && part >= 0 && part < ITEM_PARTS) {
                itemParts[items * ITEM_PARTS + part] = told;
            }
        }

        boolean isOver(int item) {
            int told = itemPart(item, KIND);
            return told == Code.RANK || told == Code.RUN;
        }

        boolean hasOver() {
            for (int item = 0; item < items; item++) {
                if (isOver(item)) {
                    return true;
                }
            }
            return false;
        }

        int keyRoot(int key) {
            return key < 0 || key >= keys ? NONE : keyParts[key * 2];
        }

        boolean isDown(int key) {
            return key >= 0 && key < keys && keyParts[key * 2 + 1] == 1;
        }

        void addConjunct(int root) {
            if (conjuncts < MOST_CONJUNCTS && root >= 0) {
                conjunctRoots[conjuncts] = root;
                conjuncts++;
            }
        }

        void findConjunctSets() {
            for (int i = 0; i < conjuncts; i++) {
                int root = conjunctRoots[i];
                conjunctSets[i] = 0;
                for (int k = code.start[root]; k <= root; k++) {
                    if (code.op[k] == Code.REF && code.arg[k] / MOST_COLUMNS < sources) {
                        conjunctSets[i] |= 1 << code.arg[k] / MOST_COLUMNS;
                    }
                }
            }
        }

        /** The ref on the left or the right side of a conjunct that is an equality; otherwise NONE. */
        int equalityRef(int conjunct, boolean isRight) {
            if (conjunct < 0 || conjunct >= conjuncts) {
                return NONE;
            }
            int root = conjunctRoots[conjunct];
            int left = code.leftOf(root);
            if (code.op[root] != '=' || code.isWrapped[root] || !code.isBareRef(left) || !code.isBareRef(root - 1)) {
                return NONE;
            }
            if (code.arg[left] / MOST_COLUMNS == code.arg[root - 1] / MOST_COLUMNS) {
                return NONE;
            }
            return isRight ? code.arg[root - 1] : code.arg[left];
        }

        int countEqualities() {
            int sum = 0;
            for (int i = 0; i < conjuncts; i++) {
                if (equalityRef(i, false) != NONE) {
                    sum++;
                }
            }
            return sum;
        }

        boolean isTold(int ref) {
            for (int i = 0; i < bys; i++) {
                if (byRefs[i] == ref) {
                    return true;
                }
            }
            return false;
        }
    }

    /** Reads a text: first its tokens, then what they tell; that stands in the sentence, if there is no fault. */
    private static final class Reader {
        private static final int MOST_OPEN = 10;
        private static final int MOST_DIGITS = 9;
        private static final int MOST_LETTERS = 8;
        private static final int MOST_TOKENS = MOST_SIGNS + 1;

        private final Table[] tables;
        Sentence sentence = new Sentence();
        private final int[] tokenKinds = new int[MOST_TOKENS];
        private final int[] tokenPlaces = new int[MOST_TOKENS];
        private final long[] tokenNumbers = new long[MOST_TOKENS];
        private int tokens = 0;
        /** The token at hand, and its kind: HALT behind a fault of kind 1, so that nothing more is read. */
        private int spot = 0;
        private int kind = Code.HALT;
        /** The place of the fault of kind 1, if there is one. */
        private int stuck = NONE;
        /** The place of the first fault of kind 2, if there is one. */
        private int strange = NONE;
        /** The first place that is a fault of kind 2 if the question is GROUPED. */
        private int strangeIfGrouped = NONE;
        private int opened = 0;
        private int sources = 0;
        private final int[] seen = new int[MOST_SOURCES];
        private boolean isChange = false;
        private boolean isBehindWhere = false;
        private boolean isBehindTake = false;
        private boolean isInner = false;
        /** Whether it is within an aggregate, or within the sum of a run: there no aggregate can be. */
        private boolean isShielded = false;
        private boolean hasAggregate = false;

        Reader(Table[] tables) {
            this.tables = tables;
        }

        int faultKind() {
            return stuck != NONE ? 1 : strange != NONE ? 2 : 0;
        }

        int faultPlace() {
            return stuck != NONE ? stuck : strange;
        }

        /** Whether there is no fault, and it is a question, or a change. */
        boolean hasRead(boolean isQuestion) {
            return stuck == NONE && strange == NONE && (sentence.kind == Code.FROM) == isQuestion;
        }

        /** Gives the sentence away, to be kept, and takes a new one for the next text. */
        Sentence handOver() {
            Sentence given = sentence;
            sentence = new Sentence();
            return given;
        }

        void read(StringBuilder signs) {
            takeTokens(signs);
            restart();
            sentence.kind = kind;
            isChange = kind != Code.FROM;
            if (kind == Code.PUT) {
                readPut();
            } else if (kind == Code.SET) {
                readSet();
            } else if (kind == Code.DROP) {
                readDrop();
            } else if (kind == Code.FROM) {
                readQuestion();
            } else {
                refuse();
            }
            expect(Code.END);
        }

        private void restart() {
            sentence.clear();
            spot = 0;
            kind = tokenKinds[0];
            stuck = NONE;
            strange = NONE;
            strangeIfGrouped = NONE;
            opened = 0;
            sources = 0;
            isBehindWhere = false;
            isBehindTake = false;
            isInner = false;
            isShielded = false;
            hasAggregate = false;
        }

        // -- tokens

        private void takeTokens(StringBuilder signs) {
            tokens = 0;
            int at = 0;
            boolean isOver = false;
            for (int i = 0; i < MOST_TOKENS && !isOver; i++) {
                for (int j = 0; j < MOST_SIGNS && signAt(signs, at) == ' '; j++) {
                    at++;
                }
                tokenPlaces[i] = at;
                tokenNumbers[i] = 0;
                tokens++;
                char sign = signAt(signs, at);
                isOver = sign == 0;
                if (isOver) {
                    tokenKinds[i] = Code.END;
                } else if (isDigit(sign)) {
                    at = takeNumber(signs, at);
                } else if (isLetter(sign)) {
                    at = takeLetters(signs, at);
                } else if (sign == '\'') {
                    at = takeWord(signs, at);
                } else {
                    at = takeSign(signs, at);
                }
            }
        }

        private static char signAt(StringBuilder signs, int at) {
            return at >= 0 && at < signs.length() ? signs.charAt(at) : 0;
        }

        private static boolean isDigit(char sign) {
            return sign >= '0' && sign <= '9';
        }

        private static boolean isLetter(char sign) {
            return sign >= 'a' && sign <= 'z';
        }

        /** Tells the last token; returns where the next one can begin. */
        private int tell(int found, long number, int end) {
            if (tokens > 0) {
                tokenKinds[tokens - 1] = found;
                tokenNumbers[tokens - 1] = number;
            }
            return end;
        }

        private int takeNumber(StringBuilder signs, int begin) {
            long number = 0;
            int end = begin;
            for (int i = 0; i < MOST_SIGNS && isDigit(signAt(signs, end)); i++) {
                number = number * 10 + (signAt(signs, end) - '0');
                end++;
            }
            return tell(end - begin > MOST_DIGITS ? Code.NO_TOKEN : Code.NUMBER, number, end);
        }

        private int takeLetters(StringBuilder signs, int begin) {
            int end = begin;
            for (int i = 0; i < MOST_SIGNS && isLetter(signAt(signs, end)); i++) {
                end++;
            }
            if (end - begin > 1) {
                return tell(wordBetween(signs, begin, end), 0, end);
            }
            char letter = signAt(signs, begin);
            char behind = signAt(signs, end);
            if (letter >= 'v' && behind >= '0' && behind <= '2') {
                return tell(Code.REF, (behind - '0') * MOST_COLUMNS + (letter - 'v'), end + 1);
            }
            if (letter >= 'v') {
                return tell(Code.COLUMN, letter - 'v', end);
            }
            return tell(letter <= 'd' ? Code.TABLE : Code.NO_TOKEN, letter - 'a', end);
        }

        private static int wordBetween(StringBuilder signs, int from, int to) {
            for (int word = 0; word < Code.WORDS && to - from <= Code.WIDTH; word++) {
                boolean isLike = true;
                for (int i = 0; i < Code.WIDTH; i++) {
                    char sign = from + i < to ? signAt(signs, from + i) : ' ';
                    if (Code.SPELLED.charAt(word * Code.WIDTH + i) != sign) {
                        isLike = false;
                    }
                }
                if (isLike) {
                    return Code.FIRST_WORD + word;
                }
            }
            return Code.NO_TOKEN;
        }

        private int takeWord(StringBuilder signs, int begin) {
            long number = 0;
            int letters = 0;
            for (int i = 0; i < MOST_SIGNS && isLetter(signAt(signs, begin + 1 + letters)); i++) {
                if (letters < MOST_LETTERS) {
                    number = number * 27 + (signAt(signs, begin + 1 + letters) - 'a' + 1);
                }
                letters++;
            }
            boolean isWord = letters >= 1 && letters <= MOST_LETTERS && signAt(signs, begin + 1 + letters) == '\'';
            for (int i = letters; i < MOST_LETTERS; i++) {
                number *= 27;
            }
            return tell(isWord ? Code.WORD : Code.NO_TOKEN, number, begin + letters + 2);
        }

        private int takeSign(StringBuilder signs, int begin) {
            char sign = signAt(signs, begin);
            char behind = signAt(signs, begin + 1);
            if (sign == '<' && (behind == '=' || behind == '>')) {
                return tell(behind == '=' ? Code.LESS_OR_LIKE : Code.UNLIKE, 0, begin + 2);
            }
            boolean isSign = sign == ';' || sign == ',' || sign == '(' || sign == ')' || sign == '[' || sign == ']'
                    || sign == '+' || sign == '-' || sign == '*' || sign == '/' || sign == '<' || sign == '=';
            return tell(isSign ? sign : Code.NO_TOKEN, 0, begin + 1);
        }

        // -- faults

        private void refuse() {
            if (stuck == NONE) {
                stuck = tokenPlaces[spot];
                kind = Code.HALT;
            }
        }

        /** Goes behind the token at hand, if it is the one that is due; otherwise it can't stand there. */
        private void expect(int due) {
            if (stuck != NONE) {
                return;
            }
            if (kind != due) {
                stuck = tokenPlaces[spot];
                kind = Code.HALT;
                return;
            }
            if (spot + 1 < tokens) {
                spot++;
            }
            kind = tokenKinds[spot];
        }

        /** Goes behind a token that opens something, if not too much is open. */
        private void openBy(int due) {
            if (opened >= MOST_OPEN) {
                refuse();
            }
            opened++;
            expect(due);
        }

        private void wonder(int place) {
            if (strange == NONE || place < strange) {
                strange = place;
            }
        }

        private void wonderIfGrouped() {
            if (strangeIfGrouped == NONE || tokenPlaces[spot] < strangeIfGrouped) {
                strangeIfGrouped = tokenPlaces[spot];
            }
        }

        // -- changes

        private int readTable() {
            long number = tokenNumbers[spot];
            int found = kind == Code.TABLE && number >= 0 && number < MOST_TABLES ? (int) number : 0;
            if (kind == Code.TABLE && tables[found] == null) {
                wonder(tokenPlaces[spot]);
            }
            expect(Code.TABLE);
            return found;
        }

        /** Reads the table of a change; returns how many columns it has, more than any if there is none. */
        private int readChangedTable() {
            expect(kind);
            seen[0] = readTable();
            sources = 1;
            sentence.sourceTables[0] = seen[0];
            sentence.sources = 1;
            Table found = tables[seen[0]];
            return found == null ? MOST_SIGNS : found.columns;
        }

        private void readPut() {
            int columns = readChangedTable();
            int told = 0;
            for (int i = 0; i < MOST_SIGNS; i++) {
                readPutValue(i, columns);
                told++;
                if (kind != ',') {
                    break;
                }
                expect(',');
            }
            if (kind == ';' && told < columns) {
                wonder(tokenPlaces[spot]);
            }
            expect(';');
        }

        private void readPutValue(int i, int columns) {
            int begin = tokenPlaces[spot];
            boolean isNegative = kind == '-';
            if (isNegative) {
                expect('-');
            }
            boolean isValue = kind == Code.NUMBER || !isNegative && (kind == Code.WORD || kind == Code.LACK);
            if (!isValue) {
                refuse();
                return;
            }
            if (i >= columns) {
                wonder(begin);
            } else if (i < MOST_COLUMNS) {
                long number = tokenNumbers[spot];
                sentence.putLacks[i] = kind == Code.LACK;
                sentence.putValues[i] = kind == Code.LACK ? 0 : isNegative ? -number : number;
            }
            expect(kind);
        }

        private void readSet() {
            int columns = readChangedTable();
            if (kind == Code.COLUMN) {
                sentence.column = (int) tokenNumbers[spot];
                if (sentence.column >= columns) {
                    wonder(tokenPlaces[spot]);
                }
            }
            expect(Code.COLUMN);
            expect('=');
            readSum();
            sentence.tellItem(Sentence.ROOT, sentence.code.last());
            sentence.items = 1;
            readChangeTest();
        }

        private void readDrop() {
            readChangedTable();
            readChangeTest();
        }

        private void readChangeTest() {
            if (kind == Code.WHERE) {
                expect(Code.WHERE);
                readTest(false);
                sentence.testRoot = sentence.code.last();
            }
            expect(';');
        }

        // -- questions

        private void readQuestion() {
            expect(Code.FROM);
            readSources();
            sentence.sources = sources;
            for (int i = 0; i < sources && i < MOST_SOURCES; i++) {
                sentence.sourceTables[i] = seen[i];
            }
            if (kind == Code.WHERE) {
                expect(Code.WHERE);
                isBehindWhere = true;
                readTest(true);
                sentence.testRoot = sentence.code.last();
                isBehindWhere = false;
            }
            readBy();
            expect(Code.TAKE);
            isBehindTake = true;
            readItems();
            readKeys();
            if (kind == Code.FIRST) {
                expect(Code.FIRST);
                sentence.first = (int) Math.min(tokenNumbers[spot], MILLION);
                expect(Code.NUMBER);
            }
            expect(';');
            if (stuck == NONE) {
                finishQuestion();
            }
        }

        private void finishQuestion() {
            sentence.isGrouped = sentence.bys > 0 || hasAggregate;
            if (sentence.isGrouped && strangeIfGrouped != NONE) {
                wonder(strangeIfGrouped);
            }
            sentence.findConjunctSets();
        }

        /** Reads the tables behind a from; those of an inner question go on behind the others. */
        private void readSources() {
            for (int i = 0; i < MOST_SOURCES; i++) {
                if (sources >= MOST_SOURCES) {
                    refuse();
                    return;
                }
                seen[sources] = readTable();
                sources++;
                if (kind != ',') {
                    return;
                }
                if (sources >= MOST_SOURCES) {
                    refuse();
                    return;
                }
                expect(',');
            }
        }

        private int readRef() {
            int found = kind == Code.REF ? (int) tokenNumbers[spot] : 0;
            if (kind == Code.REF) {
                checkRef(found);
            }
            expect(Code.REF);
            return found;
        }

        /** Looks whether the source of the ref at hand is there, and its table has the column. */
        private void checkRef(int ref) {
            int source = ref / MOST_COLUMNS;
            int place = tokenPlaces[spot];
            boolean isThere = source >= 0 && source < sources && source < MOST_SOURCES;
            Table found = isThere ? tables[seen[source]] : null;
            boolean isStrange = !isThere || found != null && ref % MOST_COLUMNS >= found.columns;
            if (isStrange && (strange == NONE || place < strange)) {
                strange = place;
            }
        }

        private void readBy() {
            if (kind != Code.BY) {
                return;
            }
            expect(Code.BY);
            for (int i = 0; i < MOST_SOURCES; i++) {
                sentence.byRefs[i] = readRef();
                sentence.bys = i + 1;
                if (kind != ',' || i == MOST_SOURCES - 1) {
                    break;
                }
                expect(',');
            }
            if (kind == Code.WITH) {
                expect(Code.WITH);
                readTest(false);
                sentence.withRoot = sentence.code.last();
            }
        }

        private void readItems() {
            for (int i = 0; i < MOST_ITEMS; i++) {
                sentence.tellItem(Sentence.KIND, kind);
                if (kind == Code.RANK || kind == Code.RUN) {
                    readOver();
                } else {
                    readSum();
                    sentence.tellItem(Sentence.ROOT, sentence.code.last());
                }
                sentence.items = i + 1;
                if (kind != ',' || i == MOST_ITEMS - 1) {
                    return;
                }
                expect(',');
            }
        }

        private void readOver() {
            wonderIfGrouped();
            boolean isRun = kind == Code.RUN;
            expect(kind);
            if (isRun) {
                openBy('(');
                isShielded = true;
                readSum();
                isShielded = false;
                expect(')');
                opened--;
                sentence.tellItem(Sentence.ROOT, sentence.code.last());
            }
            expect(Code.WORD_OVER);
            readSpan();
        }

        private void readSpan() {
            openBy('(');
            int many = 0;
            for (int i = 0; i < MOST_SOURCES && (kind == Code.REF || i > 0); i++) {
                sentence.tellItem(Sentence.SPAN_REF + i, readRef());
                many++;
                if (kind != ',' || i == MOST_SOURCES - 1) {
                    break;
                }
                expect(',');
            }
            sentence.tellItem(Sentence.SPAN, many);
            expect(Code.ALONG);
            sentence.tellItem(Sentence.ALONG, readRef());
            expect(')');
            opened--;
        }

        private void readKeys() {
            if (kind != Code.ORDER) {
                return;
            }
            expect(Code.ORDER);
            for (int i = 0; i < MOST_SOURCES; i++) {
                boolean isDown = kind == Code.DOWN;
                if (isDown) {
                    expect(Code.DOWN);
                }
                readSum();
                sentence.keyParts[i * 2] = sentence.code.last();
                sentence.keyParts[i * 2 + 1] = isDown ? 1 : 0;
                sentence.keys = i + 1;
                if (kind != ',' || i == MOST_SOURCES - 1) {
                    return;
                }
                expect(',');
            }
        }

        // -- tests: each way back into them goes through openBy, and none is gone behind a fault, so they nest
        // 11 deep at most

        private void readTest(boolean isTop) {
            readAll(isTop);
            boolean hasOr = false;
            for (int i = 0; i < MOST_SIGNS && kind == Code.OR; i++) {
                expect(Code.OR);
                readAll(isTop);
                sentence.code.addBinary(Code.OR);
                hasOr = true;
            }
            if (isTop && hasOr) {
                sentence.conjuncts = 0;
                sentence.addConjunct(sentence.code.last());
            }
        }

        private void readAll(boolean isTop) {
            readOne();
            if (isTop) {
                sentence.addConjunct(sentence.code.last());
            }
            for (int i = 0; i < MOST_SIGNS && kind == Code.AND; i++) {
                expect(Code.AND);
                readOne();
                if (isTop) {
                    sentence.addConjunct(sentence.code.last());
                }
                sentence.code.addBinary(Code.AND);
            }
        }

        private void readOne() {
            boolean mayAsk = isBehindWhere && !isInner;
            if (kind == Code.NOT) {
                openBy(Code.NOT);
                if (stuck == NONE) {
                    readOne();
                }
                opened--;
                sentence.code.addUnary(Code.NOT);
            } else if (kind == '[') {
                openBy('[');
                if (stuck == NONE) {
                    readTest(false);
                }
                expect(']');
                opened--;
                sentence.code.wrapLast();
            } else if (kind == Code.LACKS) {
                expect(Code.LACKS);
                readUnit();
                sentence.code.addUnary(Code.LACKS);
            } else if (kind == Code.SOME && mayAsk) {
                readInner(Code.SOME);
            } else {
                readSum();
                int sign = kind;
                if (sign == Code.IN && mayAsk) {
                    readInner(Code.IN);
                } else if (sign == '<' || sign == '=' || sign == Code.LESS_OR_LIKE || sign == Code.UNLIKE) {
                    expect(sign);
                    readSum();
                    sentence.code.addBinary(sign);
                } else {
                    refuse();
                }
            }
        }

        private void readInner(int word) {
            expect(word);
            openBy('(');
            int from = sentence.code.size;
            int own = sources;
            sentence.code.addLeaf(Code.FROM, 0);
            expect(Code.FROM);
            isInner = true;
            readSources();
            tellInnerTables(own);
            int test = NONE;
            if (kind == Code.WHERE) {
                expect(Code.WHERE);
                readTest(false);
                test = sentence.code.last();
                sentence.code.addLeaf(Code.WHERE, 0);
            }
            int take = NONE;
            if (word == Code.IN) {
                expect(Code.TAKE);
                readSum();
                take = sentence.code.last();
            }
            expect(')');
            opened--;
            isInner = false;
            sources = own;
            sentence.code.addInner(word, from, test, take);
        }

        private void tellInnerTables(int own) {
            sentence.code.tellInner(Code.INNER_FIRST, own);
            sentence.code.tellInner(Code.INNER_TABLES, sources - own);
            for (int i = own; i < sources && i < own + 2 && i < MOST_SOURCES; i++) {
                sentence.code.tellInner(Code.INNER_TABLE + i - own, seen[i]);
            }
        }

        // -- sums: they nest as tests do

        private void readSum() {
            readTerm();
            for (int i = 0; i < MOST_SIGNS && (kind == '+' || kind == '-'); i++) {
                int sign = kind;
                expect(sign);
                readTerm();
                sentence.code.addBinary(sign);
            }
        }

        private void readTerm() {
            readUnit();
            for (int i = 0; i < MOST_SIGNS && (kind == '*' || kind == '/'); i++) {
                int sign = kind;
                expect(sign);
                readUnit();
                sentence.code.addBinary(sign);
            }
        }

        private void readUnit() {
            if (kind == Code.NUMBER || kind == Code.WORD) {
                sentence.code.addNumber(tokenNumbers[spot]);
                expect(kind);
            } else if (kind == (isChange ? Code.COLUMN : Code.REF)) {
                int ref = (int) tokenNumbers[spot];
                checkRef(ref);
                if (!isChange && !isBehindWhere && !isShielded && !sentence.isTold(ref)) {
                    wonderIfGrouped();
                }
                sentence.code.addLeaf(Code.REF, ref);
                expect(kind);
            } else if (kind == '-') {
                openBy('-');
                if (stuck == NONE) {
                    readUnit();
                }
                opened--;
                sentence.code.addUnary(Code.MINUS);
            } else if (kind == '(') {
                openBy('(');
                if (stuck == NONE) {
                    readSum();
                }
                expect(')');
                opened--;
                sentence.code.wrapLast();
            } else if (kind == Code.COUNT) {
                noteAggregate();
                sentence.code.addLeaf(Code.COUNT, 0);
                expect(Code.COUNT);
            } else if (kind == Code.TOTAL || kind == Code.LEAST || kind == Code.MOST) {
                readAggregate();
            } else {
                refuse();
            }
        }

        private void noteAggregate() {
            if (isChange || isBehindWhere || isShielded) {
                wonder(tokenPlaces[spot]);
            }
            if (isBehindTake) {
                hasAggregate = true;
            }
        }

        private void readAggregate() {
            noteAggregate();
            int word = kind;
            boolean isWithin = isShielded;
            expect(word);
            openBy('(');
            isShielded = true;
            int begin = sentence.code.size;
            sentence.code.addLeaf(Code.BEGIN, 0);
            if (stuck == NONE) {
                readSum();
            }
            expect(')');
            opened--;
            isShielded = isWithin;
            sentence.code.addAggregate(word, begin);
        }
    }

    /** Works out sums and tests for rows and groups, and lists the rows of questions. */
    private static final class Machine {
        private static final int MOST_WORKED = 256;
        private static final int MOST_DEEP = 2;

        private final Table[] tables;
        private final Table[] sources = new Table[MOST_SOURCES];
        private final int[] sourceTables = new int[MOST_SOURCES];
        /** The place at which each source stands. */
        final int[] at = new int[MOST_SOURCES];
        private final int[] nth = new int[MOST_SOURCES];
        private final int[][] living = new int[MOST_TABLES][MOST_VERSIONS];
        private final int[] livingCounts = new int[MOST_TABLES];
        private final long[] worked = new long[MOST_WORKED];
        private final boolean[] workedLacks = new boolean[MOST_WORKED];
        private int top = 0;
        private final int[] rowAt = new int[MOST_ROWS];
        private int rowCount = 0;
        /** The next row of the same group. */
        final int[] nextRow = new int[MOST_ROWS];
        private int groupHead = NONE;
        private int members = 0;
        private final char[] spelledDigits = new char[20];

        Machine(Table[] tables) {
            this.tables = tables;
        }

        // -- sums and tests

        private void push(long result, boolean isLack) {
            if (top < MOST_WORKED) {
                worked[top] = isLack ? 0 : result;
                workedLacks[top] = isLack;
                top++;
            }
        }

        /**
         * Works out a sum or test; what comes out of a sum is told by result() and isResultLack(). Returns whether
         * a test is so.
         */
        boolean reckon(Code code, int root) {
            top = 0;
            if (root >= 0 && root < code.size) {
                work(code, code.start[root], root, 0);
            }
            return top > 0 && worked[0] != 0;
        }

        long result() {
            return worked[0];
        }

        boolean isResultLack() {
            return top < 1 || workedLacks[0];
        }

        /** Works through parts; leaves one result more on the stack. */
        private void work(Code code, int from, int to, int depth) {
            for (int i = from; i <= to && i < code.size; i++) {
                int op = code.op[i];
                if (op == Code.FROM) {
                    i = Math.max(i, workInner(code, code.arg[i], depth));
                } else if (op == Code.BEGIN) {
                    i = Math.max(i, workAggregate(code, i, depth));
                } else if (op == Code.NUMBER) {
                    push(code.number[i], false);
                } else if (op == Code.REF) {
                    pushRef(code.arg[i]);
                } else if (op == Code.COUNT) {
                    push(members, false);
                } else if (op == Code.MINUS || op == Code.NOT || op == Code.LACKS) {
                    workUnary(op);
                } else if (op == '+' || op == '-' || op == '*' || op == '/') {
                    workSum(op);
                } else {
                    workTest(op);
                }
            }
        }

        private void pushRef(int ref) {
            int source = ref / MOST_COLUMNS;
            Table table = source >= 0 && source < MOST_SOURCES ? sources[source] : null;
            if (top >= MOST_WORKED) {
                return;
            }
            int spot = table == null ? NONE : at[source] * table.columns + ref % MOST_COLUMNS;
            boolean isThere = table != null && spot >= 0 && spot < table.values.length;
            workedLacks[top] = !isThere || table.lacking[spot];
            worked[top] = isThere ? table.values[spot] : 0;
            top++;
        }

        private void workUnary(int op) {
            if (top < 1) {
                return;
            }
            long one = worked[top - 1];
            if (op == Code.MINUS) {
                worked[top - 1] = -one;
            } else if (op == Code.NOT) {
                worked[top - 1] = one == 0 ? 1 : 0;
            } else {
                worked[top - 1] = workedLacks[top - 1] ? 1 : 0;
                workedLacks[top - 1] = false;
            }
        }

        private void workSum(int op) {
            if (top < 2) {
                return;
            }
            top--;
            long left = worked[top - 1];
            long right = worked[top];
            boolean isLack = workedLacks[top - 1] || workedLacks[top] || op == '/' && right == 0;
            long made = 0;
            if (op == '+') {
                made = left + right;
            } else if (op == '-') {
                made = left - right;
            } else if (op == '*') {
                made = left * right;
            } else if (right != 0) {
                made = left / right;
            }
            worked[top - 1] = isLack ? 0 : made;
            workedLacks[top - 1] = isLack;
        }

        /** A comparison, an and or an or; a comparison with a LACKING side is not so. */
        private void workTest(int op) {
            if (top < 2) {
                return;
            }
            top--;
            long left = worked[top - 1];
            long right = worked[top];
            boolean isLack = workedLacks[top - 1] || workedLacks[top];
            boolean isSo;
            switch (op) {
                case '<': isSo = left < right; break;
                case '=': isSo = left == right; break;
                case Code.LESS_OR_LIKE: isSo = left <= right; break;
                case Code.UNLIKE: isSo = left != right; break;
                case Code.AND: isSo = left != 0 && right != 0; break;
                default: isSo = left != 0 || right != 0; break;
            }
            worked[top - 1] = isSo && !isLack ? 1 : 0;
            workedLacks[top - 1] = false;
        }

        /** Works out an inner question; returns the place of its SOME or IN. */
        private int workInner(Code code, int inner, int depth) {
            int end = code.innerPart(inner, Code.INNER_END);
            boolean isIn = end >= 0 && end < code.size && code.op[end] == Code.IN;
            boolean isLack = false;
            long sought = 0;
            if (isIn && top > 0) {
                top--;
                sought = worked[top];
                isLack = workedLacks[top];
            }
            boolean isFound = !isLack && depth < MOST_DEEP && searchInner(code, inner, isIn, sought, depth);
            push(isFound ? 1 : 0, false);
            return end;
        }

        private boolean searchInner(Code code, int inner, boolean isIn, long sought, int depth) {
            int first = code.innerPart(inner, Code.INNER_FIRST);
            int many = code.innerPart(inner, Code.INNER_TABLES);
            if (first < 0 || many < 1 || many > 2 || first + many > MOST_SOURCES) {
                return false;
            }
            for (int i = 0; i < many; i++) {
                bind(first + i, code.innerPart(inner, Code.INNER_TABLE + i));
            }
            int outer = livingCounts[sourceTables[first]];
            int last = first + many - 1;
            int within = many == 2 ? livingCounts[sourceTables[last]] : 1;
            for (int i = 0; i < outer; i++) {
                for (int j = 0; j < within; j++) {
                    at[first] = living[sourceTables[first]][i];
                    if (many == 2) {
                        at[last] = living[sourceTables[last]][j];
                    }
                    if (isInnerHit(code, inner, isIn, sought, depth)) {
                        return true;
                    }
                }
            }
            return false;
        }

        private boolean isInnerHit(Code code, int inner, boolean isIn, long sought, int depth) {
            int test = code.innerPart(inner, Code.INNER_TEST);
            if (test >= 0 && test < code.size) {
                work(code, code.start[test], test, depth + 1);
                top = Math.max(0, top - 1);
                if (worked[top] == 0) {
                    return false;
                }
            }
            int take = code.innerPart(inner, Code.INNER_TAKE);
            if (!isIn || take < 0 || take >= code.size) {
                return !isIn;
            }
            work(code, code.start[take], take, depth + 1);
            top = Math.max(0, top - 1);
            return !workedLacks[top] && worked[top] == sought;
        }

        /** Works out an aggregate over the rows of the group at hand; returns its place. */
        private int workAggregate(Code code, int begin, int depth) {
            int end = code.arg[begin];
            if (end <= begin || end >= code.size) {
                return begin;
            }
            int op = code.op[end];
            long found = 0;
            boolean isEmpty = true;
            int row = groupHead;
            for (int i = 0; i < members && row >= 0 && row < rowCount && depth < MOST_DEEP; i++) {
                standAt(row);
                work(code, begin + 1, end - 1, depth + 1);
                top = Math.max(0, top - 1);
                long one = worked[top];
                if (!workedLacks[top]) {
                    found = isEmpty ? one : op == Code.TOTAL ? found + one
                            : op == Code.LEAST ? Math.min(found, one) : Math.max(found, one);
                    isEmpty = false;
                }
                row = nextRow[row];
            }
            standAt(groupHead);
            push(found, isEmpty);
            return end;
        }

        // -- rows

        private void bind(int source, int table) {
            int known = table >= 0 && table < MOST_TABLES ? table : 0;
            sourceTables[source] = known;
            sources[source] = tables[known];
            at[source] = 0;
        }

        /** Makes ready for rows as of a moment. */
        void prepare(Sentence asked, int moment) {
            for (int table = 0; table < MOST_TABLES; table++) {
                livingCounts[table] = 0;
                int many = tables[table] == null ? 0 : tables[table].count;
                for (int place = 0; place < many && place < MOST_VERSIONS; place++) {
                    if (tables[table].isAlive(place, moment)) {
                        living[table][livingCounts[table]] = place;
                        livingCounts[table]++;
                    }
                }
            }
            for (int source = 0; source < asked.sources && source < MOST_SOURCES; source++) {
                bind(source, asked.sourceTables[source]);
            }
            rowCount = 0;
            groupHead = NONE;
            members = 0;
        }

        /** Stands at the first combination of the sources of a set; returns how many there are. */
        int startRows(int set) {
            int many = 1;
            for (int source = 0; source < MOST_SOURCES; source++) {
                if ((set >> source & 1) == 1) {
                    many *= livingCounts[sourceTables[source]];
                    nth[source] = 0;
                    at[source] = living[sourceTables[source]][0];
                }
            }
            return many;
        }

        void advanceRow(int set) {
            for (int source = MOST_SOURCES - 1; source >= 0; source--) {
                if ((set >> source & 1) == 0) {
                    continue;
                }
                int table = sourceTables[source];
                nth[source]++;
                boolean isRound = nth[source] >= livingCounts[table];
                if (isRound) {
                    nth[source] = 0;
                }
                at[source] = living[table][nth[source]];
                if (!isRound) {
                    return;
                }
            }
        }

        /** Whether all conjuncts are so that have refs of sources of the set alone. */
        boolean stays(Sentence asked, int set) {
            for (int i = 0; i < asked.conjuncts; i++) {
                if ((asked.conjunctSets[i] & ~set) == 0 && !reckon(asked.code, asked.conjunctRoots[i])) {
                    return false;
                }
            }
            return true;
        }

        int countRows(Sentence asked, int set) {
            int sum = 0;
            int many = startRows(set);
            for (int i = 0; i < many; i++) {
                if (stays(asked, set)) {
                    sum++;
                }
                advanceRow(set);
            }
            return sum;
        }

        /** Collects the rows that stay; returns how many. */
        int collectRows(Sentence asked) {
            rowCount = 0;
            int set = (1 << asked.sources) - 1;
            int many = startRows(set);
            for (int i = 0; i < many && rowCount < MOST_ROWS; i++) {
                if (stays(asked, set)) {
                    rowAt[rowCount] = at[0] | at[1] << 8 | at[2] << 16;
                    nextRow[rowCount] = rowCount + 1;
                    rowCount++;
                }
                advanceRow(set);
            }
            return rowCount;
        }

        void standAt(int row) {
            if (row >= 0 && row < rowCount) {
                at[0] = rowAt[row] & 255;
                at[1] = rowAt[row] >> 8 & 255;
                at[2] = rowAt[row] >> 16 & 255;
            }
        }

        void standAtGroup(int head, int size) {
            groupHead = head;
            members = size;
            standAt(head);
        }

        /** Takes the value of a ref where the sources stand as the result. */
        void reckonRef(int ref) {
            top = 0;
            pushRef(ref);
        }

        // -- changes

        /** Whether a version is there and the change's test is so for it. */
        boolean isHit(Sentence told, Table changed, int place) {
            if (told.kind == Code.PUT || place < 0 || place >= changed.count || changed.died[place] != NONE) {
                return false;
            }
            sources[0] = changed;
            at[0] = place;
            return told.testRoot == NONE || reckon(told.code, told.testRoot);
        }

        int countHits(Sentence told, Table changed) {
            int sum = 0;
            for (int place = 0; place < changed.count; place++) {
                if (isHit(told, changed, place)) {
                    sum++;
                }
            }
            return sum;
        }

        /** Does a change for which there is room; returns how many versions died. */
        int doChange(Sentence told, Table changed, int moment) {
            if (told.kind == Code.PUT) {
                int put = changed.addVersion(moment);
                for (int column = 0; column < changed.columns && column < MOST_COLUMNS; column++) {
                    changed.putValue(put, column, told.putValues[column], told.putLacks[column]);
                }
                return 0;
            }
            int before = changed.count;
            int hits = 0;
            for (int place = 0; place < before; place++) {
                if (!isHit(told, changed, place)) {
                    continue;
                }
                hits++;
                if (told.kind == Code.SET) {
                    reckon(told.code, told.itemPart(0, Sentence.ROOT));
                    int put = changed.addLike(changed, place, moment);
                    changed.putValue(put, told.column, result(), isResultLack());
                }
                changed.died[place] = moment;
            }
            return hits;
        }

        // -- programs

        private static void gap(StringBuilder out) {
            if (out.length() > 0) {
                out.append(' ');
            }
        }

        private static void spellWord(int word, StringBuilder out) {
            int begin = (word - Code.FIRST_WORD) * Code.WIDTH;
            for (int i = 0; i < Code.WIDTH; i++) {
                int spot = begin + i;
                if (spot >= 0 && spot < Code.SPELLED.length() && Code.SPELLED.charAt(spot) != ' ') {
                    out.append(Code.SPELLED.charAt(spot));
                }
            }
        }

        private void spellNumber(long number, StringBuilder out) {
            if (number < 0) {
                out.append('-');
            }
            int digits = 0;
            long rest = number;
            for (int i = 0; i < 20 && (i == 0 || rest != 0); i++) {
                spelledDigits[i] = (char) ('0' + Math.abs((int) (rest % 10)));
                rest /= 10;
                digits++;
            }
            for (int i = digits - 1; i >= 0; i--) {
                out.append(spelledDigits[i]);
            }
        }

        private static void spellRef(int ref, StringBuilder out) {
            out.append((char) ('v' + ref % MOST_COLUMNS));
            out.append((char) ('0' + ref / MOST_COLUMNS));
        }

        private static boolean isTest(int op) {
            return op == '<' || op == '=' || op == Code.LESS_OR_LIKE || op == Code.UNLIKE || op == Code.AND
                    || op == Code.OR || op == Code.NOT || op == Code.LACKS;
        }

        private void spellConstant(Code code, int root, StringBuilder out) {
            boolean isSo = reckon(code, root);
            if (isTest(code.op[root])) {
                out.append(isSo ? "so" : "no");
            } else if (isResultLack()) {
                out.append("lack");
            } else {
                spellNumber(result(), out);
            }
        }

        /** Writes the program of a sum or test; constant parts are told by their values alone. */
        void spell(Code code, int root, StringBuilder out) {
            if (root < 0 || root >= code.size) {
                return;
            }
            if (code.isConstant[root]) {
                gap(out);
                spellConstant(code, root, out);
                return;
            }
            for (int i = code.start[root]; i <= root; i++) {
                if (!code.isCovered[i] && code.op[i] != Code.BEGIN) {
                    gap(out);
                    spellPart(code, i, out);
                }
            }
        }

        private void spellPart(Code code, int part, StringBuilder out) {
            int op = code.op[part];
            if (code.isConstant[part]) {
                spellConstant(code, part, out);
            } else if (op == Code.REF) {
                spellRef(code.arg[part], out);
            } else if (op == Code.LESS_OR_LIKE) {
                out.append("<=");
            } else if (op == Code.UNLIKE) {
                out.append("<>");
            } else if (op == Code.MINUS) {
                out.append("neg");
            } else if (op < 128) {
                out.append((char) op);
            } else {
                spellWord(op, out);
                if (op == Code.FROM) {
                    spellTables(code, code.arg[part], out);
                }
            }
        }

        private static void spellTables(Code code, int inner, StringBuilder out) {
            int many = code.innerPart(inner, Code.INNER_TABLES);
            for (int i = 0; i < many && i < 2; i++) {
                out.append(' ');
                out.append((char) ('a' + code.innerPart(inner, Code.INNER_TABLE + i)));
            }
        }

        void spellItem(Sentence asked, int item, StringBuilder out) {
            if (asked.itemPart(item, Sentence.KIND) != Code.RANK) {
                spell(asked.code, asked.itemPart(item, Sentence.ROOT), out);
            }
            if (!asked.isOver(item)) {
                return;
            }
            for (int i = 0; i < asked.itemPart(item, Sentence.SPAN); i++) {
                gap(out);
                spellRef(asked.itemPart(item, Sentence.SPAN_REF + i), out);
            }
            gap(out);
            spellWord(Code.ALONG, out);
            gap(out);
            spellRef(asked.itemPart(item, Sentence.ALONG), out);
            gap(out);
            spellWord(asked.itemPart(item, Sentence.KIND), out);
        }
    }

    /** The answers of section 4; the last one is at hand until a table changes. */
    private static final class Answers {
        /** A row has 3 keys at most, or, for rank and run, 3 refs and the one behind along. */
        private static final int MOST_KEYS = 4;

        private final Machine machine;
        private Sentence solved = null;
        private int solvedMoment = NONE;
        /** How many rows stay, how many groups (or rows), and how many rows the answer has. */
        int joined = 0;
        int found = 0;
        int count = 0;
        int items = 0;
        private final long[] values = new long[MOST_ROWS * MOST_ITEMS];
        private final boolean[] lacking = new boolean[MOST_ROWS * MOST_ITEMS];
        private final long[] keyValues = new long[MOST_ROWS * MOST_KEYS];
        private final boolean[] keyLacks = new boolean[MOST_ROWS * MOST_KEYS];
        private final int[] order = new int[MOST_ROWS];
        private final int[] merged = new int[MOST_ROWS];
        /** The size of the group of which a row is the first one; 0 for other rows. */
        private final int[] groupSizes = new int[MOST_ROWS];
        private final long[] parts = new long[MOST_ROWS];
        private final boolean[] partLacks = new boolean[MOST_ROWS];

        Answers(Machine machine) {
            this.machine = machine;
        }

        void forget() {
            solved = null;
        }

        /** Whether rows() answers: nothing is swept since, and no product is above the bound. */
        boolean isAnswerable(Sentence asked, int moment) {
            long own = 1;
            for (int source = 0; source < asked.sources; source++) {
                own *= livingOf(asked.sourceTables[source], moment);
            }
            if (own > MOST_ROWS || isSweptSince(asked, moment)) {
                return false;
            }
            for (int inner = 0; inner < asked.code.inners; inner++) {
                long all = own;
                int many = asked.code.innerPart(inner, Code.INNER_TABLES);
                for (int i = 0; i < many; i++) {
                    all *= livingOf(asked.code.innerPart(inner, Code.INNER_TABLE + i), moment);
                }
                if (all > MOST_ROWS) {
                    return false;
                }
            }
            return true;
        }

        private int livingOf(int table, int moment) {
            Table found = table >= 0 && table < MOST_TABLES ? machine.tables[table] : null;
            return found == null ? 0 : found.living(moment);
        }

        private boolean isLater(int table, int moment) {
            Table found = table >= 0 && table < MOST_TABLES ? machine.tables[table] : null;
            return found != null && found.since > moment;
        }

        private boolean isSweptSince(Sentence asked, int moment) {
            for (int source = 0; source < asked.sources; source++) {
                if (isLater(asked.sourceTables[source], moment)) {
                    return true;
                }
            }
            for (int inner = 0; inner < asked.code.inners; inner++) {
                int many = asked.code.innerPart(inner, Code.INNER_TABLES);
                for (int i = 0; i < many; i++) {
                    if (isLater(asked.code.innerPart(inner, Code.INNER_TABLE + i), moment)) {
                        return true;
                    }
                }
            }
            return false;
        }

        /** Works out the answer to a question that is answerable; returns its rows. */
        int solve(Sentence asked, int moment) {
            if (asked == solved && moment == solvedMoment) {
                return count;
            }
            machine.prepare(asked, moment);
            joined = machine.collectRows(asked);
            items = asked.items;
            found = 0;
            if (asked.isGrouped) {
                tellGroups(asked);
            } else {
                tellRows(asked);
            }
            int downs = 0;
            for (int key = 0; key < asked.keys; key++) {
                downs |= asked.isDown(key) ? 1 << key : 0;
            }
            sortRows(found, asked.keys, downs);
            count = asked.first == NONE ? found : Math.min(found, asked.first);
            solved = asked;
            solvedMoment = moment;
            return count;
        }

        private int spotOf(int row, int item) {
            boolean isThere = row >= 0 && row < count && item >= 0 && item < items;
            return isThere ? order[row] * items + item : NONE;
        }

        long valueAt(int row, int item) {
            int spot = spotOf(row, item);
            return spot < 0 ? 0 : values[spot];
        }

        boolean isLack(int row, int item) {
            int spot = spotOf(row, item);
            return spot < 0 || lacking[spot];
        }

        long sumOfAll() {
            long sum = 0;
            for (int row = 0; row < count; row++) {
                for (int item = 0; item < items; item++) {
                    sum = 31 * sum + valueAt(row, item) + (isLack(row, item) ? 1000003 : 0);
                }
            }
            return sum;
        }

        // -- rows and groups

        /** Tells the values of items and keys where the machine stands. */
        private void tellRow(Sentence asked, int row) {
            for (int item = 0; item < items; item++) {
                if (!asked.isOver(item)) {
                    machine.reckon(asked.code, asked.itemPart(item, Sentence.ROOT));
                    tellItem(row, item, machine.result(), machine.isResultLack());
                }
            }
            for (int key = 0; key < asked.keys; key++) {
                machine.reckon(asked.code, asked.keyRoot(key));
                tellKey(row, key);
            }
        }

        private void tellItem(int row, int item, long told, boolean isLack) {
            values[row * items + item] = isLack ? 0 : told;
            lacking[row * items + item] = isLack;
        }

        /** Takes what the machine worked out as a key of a row. */
        private void tellKey(int row, int key) {
            keyValues[row * MOST_KEYS + key] = machine.result();
            keyLacks[row * MOST_KEYS + key] = machine.isResultLack();
        }

        /** What is over spans goes first: it takes the place of the keys while it is worked out. */
        private void tellRows(Sentence asked) {
            for (int item = 0; item < items; item++) {
                if (asked.isOver(item)) {
                    tellOver(asked, item);
                }
            }
            for (int row = 0; row < joined; row++) {
                machine.standAt(row);
                tellRow(asked, row);
            }
            found = joined;
        }

        private void tellGroups(Sentence asked) {
            if (asked.bys == 0 && joined == 0) {
                tellGroup(asked, NONE, 0);
                return;
            }
            makeGroups(asked);
            for (int row = 0; row < joined; row++) {
                if (groupSizes[row] > 0) {
                    tellGroup(asked, row, groupSizes[row]);
                }
            }
        }

        private void tellGroup(Sentence asked, int head, int size) {
            machine.standAtGroup(head, size);
            if (asked.withRoot == NONE || machine.reckon(asked.code, asked.withRoot)) {
                tellRow(asked, found);
                found++;
            }
        }

        /** Like rows come to stand behind one another, in their order; so the first of them heads its group. */
        private void makeGroups(Sentence asked) {
            for (int row = 0; row < joined; row++) {
                machine.standAt(row);
                for (int i = 0; i < asked.bys; i++) {
                    machine.reckonRef(asked.byRefs[i]);
                    tellKey(row, i);
                }
            }
            sortRows(joined, asked.bys, 0);
            int head = 0;
            for (int i = 0; i < joined; i++) {
                int row = order[i];
                groupSizes[row] = 0;
                if (i > 0 && compareKeys(head, row, asked.bys, 0) == 0) {
                    machine.nextRow[order[i - 1]] = row;
                } else {
                    head = row;
                }
                groupSizes[head]++;
            }
        }

        // -- rank and run

        private void tellOver(Sentence asked, int item) {
            boolean isRun = asked.itemPart(item, Sentence.KIND) == Code.RUN;
            int span = asked.itemPart(item, Sentence.SPAN);
            for (int row = 0; row < joined; row++) {
                machine.standAt(row);
                for (int i = 0; i < span; i++) {
                    machine.reckonRef(asked.itemPart(item, Sentence.SPAN_REF + i));
                    tellKey(row, i);
                }
                machine.reckonRef(asked.itemPart(item, Sentence.ALONG));
                tellKey(row, span);
                if (isRun) {
                    machine.reckon(asked.code, asked.itemPart(item, Sentence.ROOT));
                    parts[row] = machine.result();
                    partLacks[row] = machine.isResultLack();
                }
            }
            sortRows(joined, span + 1, 0);
            if (isRun) {
                tellRuns(item, span);
            } else {
                tellRanks(item, span);
            }
        }

        /** Whether the row at a place of the order has other first keys than the one ahead of it. */
        private boolean isOther(int i, int keys) {
            return i == 0 || compareKeys(order[i - 1], order[i], keys, 0) != 0;
        }

        private void tellRanks(int item, int span) {
            int begin = 0;
            long rank = 1;
            for (int i = 0; i < joined; i++) {
                if (isOther(i, span)) {
                    begin = i;
                }
                if (isOther(i, span + 1)) {
                    rank = i - begin + 1;
                }
                tellItem(order[i], item, rank, false);
            }
        }

        private void tellRuns(int item, int span) {
            long sum = 0;
            boolean isEmpty = true;
            for (int i = 0; i < joined; i++) {
                if (isOther(i, span)) {
                    sum = 0;
                    isEmpty = true;
                }
                // all rows with the like value behind along count for each of them
                boolean isFirst = isOther(i, span + 1);
                for (int j = i; isFirst && j < joined && compareKeys(order[i], order[j], span + 1, 0) == 0; j++) {
                    if (!partLacks[order[j]]) {
                        sum += parts[order[j]];
                        isEmpty = false;
                    }
                }
                tellItem(order[i], item, sum, isEmpty);
            }
        }

        // -- the order

        /** LACKING is less than all numbers, and like itself. Bit k of downs tells that key k goes down. */
        private int compareKeys(int row, int other, int keys, int downs) {
            for (int key = 0; key < keys && key < MOST_KEYS; key++) {
                int spot = row * MOST_KEYS + key;
                int otherSpot = other * MOST_KEYS + key;
                int way = 0;
                if (keyLacks[spot] || keyLacks[otherSpot]) {
                    way = keyLacks[spot] == keyLacks[otherSpot] ? 0 : keyLacks[spot] ? -1 : 1;
                } else {
                    way = Long.compare(keyValues[spot], keyValues[otherSpot]);
                }
                if (way != 0) {
                    return (downs >> key & 1) == 1 ? -way : way;
                }
            }
            return 0;
        }

        /** Orders the rows by their first keys, like ones as they are, by merging longer and longer stretches. */
        private void sortRows(int rows, int keys, int downs) {
            for (int row = 0; row < rows; row++) {
                order[row] = row;
            }
            for (int width = 1; width < rows && keys > 0; width *= 2) {
                for (int from = 0; from < rows; from += 2 * width) {
                    int end = Math.min(from + 2 * width, rows);
                    merge(from, Math.min(from + width, rows), end, keys, downs);
                }
                System.arraycopy(merged, 0, order, 0, rows);
            }
        }

        private void merge(int from, int middle, int end, int keys, int downs) {
            int left = from;
            int right = middle;
            for (int i = from; i < end; i++) {
                boolean isLeft = left < middle
                        && (right >= end || compareKeys(order[left], order[right], keys, downs) <= 0);
                merged[i] = isLeft ? order[left] : order[right];
                left += isLeft ? 1 : 0;
                right += isLeft ? 0 : 1;
            }
        }
    }

    /** Which zones are left out, what plans cost, and which one is best. */
    private static final class Planner {
        private static final int LEAF = 0;
        private static final int MOST_NODES = 5;
        private static final int MOST_WAYS = 864;
        private static final int PLANS_OF_TWO = 16;

        private final Table[] tables;
        private final Index[] indexes;
        private final Machine machine;
        private Sentence asked = null;
        private int moment = 0;
        final int[] reads = new int[MOST_SOURCES];
        final int[] shutZones = new int[MOST_SOURCES];
        private final boolean[] isShut = new boolean[MOST_SOURCES * MOST_ZONES];
        /** The refs on the left and on the right side of each equality. */
        private final int[] equalityRefs = new int[2 * Sentence.MOST_CONJUNCTS];
        private int equalities = 0;
        /** EST of each set of sources. */
        final long[] estimates = new long[8];
        private final int[] nodeKinds = new int[MOST_NODES];
        private final int[] nodeLefts = new int[MOST_NODES];
        private final int[] nodeRights = new int[MOST_NODES];
        private final int[] nodeSets = new int[MOST_NODES];
        private int nodes = 0;
        private int spot = 0;
        private final StringBuilder tried = new StringBuilder();
        final StringBuilder bestPlan = new StringBuilder();

        Planner(Table[] tables, Index[] indexes, Machine machine) {
            this.tables = tables;
            this.indexes = indexes;
            this.machine = machine;
        }

        /** Makes ready for the plans of a question as of a moment. */
        void prepare(Sentence question, int asOf) {
            asked = question;
            moment = asOf;
            findEqualities();
            for (int source = 0; source < asked.sources; source++) {
                shutZonesOf(source);
            }
            for (int set = 1; set < 1 << asked.sources && set < 8; set++) {
                estimates[set] = estimateOf(set);
            }
        }

        private void findEqualities() {
            equalities = 0;
            for (int i = 0; i < asked.conjuncts; i++) {
                int left = asked.equalityRef(i, false);
                int right = asked.equalityRef(i, true);
                if (left != NONE && right != NONE && equalities < Sentence.MOST_CONJUNCTS) {
                    equalityRefs[2 * equalities] = left;
                    equalityRefs[2 * equalities + 1] = right;
                    equalities++;
                }
            }
        }

        private Table tableOf(int source) {
            int number = source >= 0 && source < asked.sources ? asked.sourceTables[source] : NONE;
            return number >= 0 && number < MOST_TABLES ? tables[number] : null;
        }

        // -- zones

        private void shutZonesOf(int source) {
            Table table = tableOf(source);
            reads[source] = 0;
            shutZones[source] = 0;
            if (table == null) {
                return;
            }
            for (int zone = 0; zone < table.zones() && zone < MOST_ZONES; zone++) {
                boolean isOut = !isZoneAlive(table, zone);
                for (int i = 0; i < asked.conjuncts && !isOut; i++) {
                    isOut = shutsOut(asked.conjunctRoots[i], source, table, zone);
                }
                isShut[source * MOST_ZONES + zone] = isOut;
                if (isOut) {
                    shutZones[source]++;
                } else {
                    reads[source] += Math.min(ZONE, table.count - zone * ZONE);
                }
            }
        }

        private boolean isZoneAlive(Table table, int zone) {
            for (int i = 0; i < ZONE; i++) {
                if (table.isAlive(zone * ZONE + i, moment)) {
                    return true;
                }
            }
            return false;
        }

        private boolean shutsOut(int root, int source, Table table, int zone) {
            Code code = asked.code;
            int op = code.op[root];
            if (code.isWrapped[root]) {
                return false;
            }
            if (op == Code.LACKS) {
                boolean isOfSource = isBareRefOf(root - 1, source);
                return isOfSource && !hasLack(table, code.arg[root - 1] % MOST_COLUMNS, zone);
            }
            if (op != '<' && op != '=' && op != Code.LESS_OR_LIKE && op != Code.UNLIKE) {
                return false;
            }
            int left = code.leftOf(root);
            if (isBareRefOf(left, source) && code.isFixed(root - 1)) {
                machine.reckon(code, root - 1);
                return isNever(table, code.arg[left] % MOST_COLUMNS, zone, op, false);
            }
            if (isBareRefOf(root - 1, source) && code.isFixed(left)) {
                machine.reckon(code, left);
                return isNever(table, code.arg[root - 1] % MOST_COLUMNS, zone, op, true);
            }
            return false;
        }

        private boolean isBareRefOf(int part, int source) {
            return asked.code.isBareRef(part) && asked.code.arg[part] / MOST_COLUMNS == source;
        }

        private static boolean hasLack(Table table, int column, int zone) {
            return table.gather(column, zone) < Math.min(ZONE, table.count - zone * ZONE);
        }

        /** Whether no number of the zone's range stands so to the machine's result. */
        private boolean isNever(Table table, int column, int zone, int op, boolean isNumberAhead) {
            int there = table.gather(column, zone);
            if (there == 0 || machine.isResultLack()) {
                return true;
            }
            long number = machine.result();
            long least = table.extreme(there, false);
            long greatest = table.extreme(there, true);
            switch (op) {
                case '=': return number < least || number > greatest;
                case '<': return isNumberAhead ? greatest <= number : least >= number;
                case Code.LESS_OR_LIKE: return isNumberAhead ? greatest < number : least > number;
                default: return least == number && greatest == number;
            }
        }

        /** Whether one of the places at which the sources stand is in a zone that is left out. */
        boolean isAnyShut(int[] at) {
            for (int source = 0; source < asked.sources && source < at.length; source++) {
                int zone = at[source] / ZONE;
                if (zone >= 0 && zone < MOST_ZONES && isShut[source * MOST_ZONES + zone]) {
                    return true;
                }
            }
            return false;
        }

        // -- estimates

        private static long upwards(long number, long divisor) {
            return divisor <= 0 ? number : number / divisor + (number % divisor == 0 ? 0 : 1);
        }

        private int tallyOf(int ref) {
            Table table = tableOf(ref / MOST_COLUMNS);
            return table == null ? 0 : table.tallies[ref % MOST_COLUMNS];
        }

        private long estimateOf(int set) {
            long rows = 1;
            for (int source = 0; source < asked.sources; source++) {
                if ((set >> source & 1) == 1) {
                    rows *= reads[source];
                }
            }
            for (int i = 0; i < equalities; i++) {
                int left = equalityRefs[2 * i];
                int right = equalityRefs[2 * i + 1];
                int both = 1 << left / MOST_COLUMNS | 1 << right / MOST_COLUMNS;
                if ((both & ~set) == 0) {
                    rows = upwards(rows, Math.max(1, Math.max(tallyOf(left), tallyOf(right))));
                }
            }
            return rows;
        }

        /** P(n): the passes over n rows with so little room. */
        static int passes(long many, int room) {
            if (many <= room || room < 2) {
                return 0;
            }
            int sum = 0;
            long power = room;
            for (int i = 0; i < 64 && power < many; i++) {
                power *= room;
                sum++;
            }
            return sum;
        }

        // -- plans

        /** Reads a plan, whose nodes stand then behind those that they join; whether it is LAWFUL. */
        boolean isLawful(StringBuilder plan) {
            nodes = 0;
            spot = 0;
            if (plan.length() != 4 * asked.sources - 3) {
                return false;
            }
            int whole = readNode(plan, 0);
            if (whole == NONE || spot != plan.length() || nodeSets[whole] != (1 << asked.sources) - 1) {
                return false;
            }
            for (int i = 0; i < nodes; i++) {
                if (!isNodeLawful(i)) {
                    return false;
                }
            }
            return true;
        }

        private static char signAt(StringBuilder plan, int at) {
            return at >= 0 && at < plan.length() ? plan.charAt(at) : 0;
        }

        private int readNode(StringBuilder plan, int depth) {
            char sign = signAt(plan, spot);
            spot++;
            if (sign >= '0' && sign < '0' + asked.sources) {
                return addNode(LEAF, NONE, NONE, 1 << sign - '0');
            }
            if (sign != '(' || depth >= MOST_SOURCES) {
                return NONE;
            }
            int left = readNode(plan, depth + 1);
            if (left == NONE) {
                return NONE;
            }
            char op = signAt(plan, spot);
            spot++;
            int right = readNode(plan, depth + 1);
            if (right == NONE || signAt(plan, spot) != ')' || (nodeSets[left] & nodeSets[right]) != 0) {
                return NONE;
            }
            spot++;
            return addNode(op, left, right, nodeSets[left] | nodeSets[right]);
        }

        private int addNode(int kind, int left, int right, int set) {
            if (nodes >= MOST_NODES) {
                return NONE;
            }
            nodeKinds[nodes] = kind;
            nodeLefts[nodes] = left;
            nodeRights[nodes] = right;
            nodeSets[nodes] = set;
            nodes++;
            return nodes - 1;
        }

        private boolean isNodeLawful(int node) {
            int kind = nodeKinds[node];
            if (kind == LEAF || kind == 'x') {
                return true;
            }
            int ref = joinRef(node, true);
            if (kind == 'i') {
                return ref != NONE && nodeKinds[nodeRights[node]] == LEAF && indexOf(ref) != null;
            }
            return ref != NONE && (kind == 'h' || kind == 'm');
        }

        /** The ref on the left or the right part's side of the first equality of both parts; NONE without one. */
        private int joinRef(int node, boolean isRight) {
            int leftSet = nodeSets[nodeLefts[node]];
            int rightSet = nodeSets[nodeRights[node]];
            for (int i = 0; i < equalities; i++) {
                int one = equalityRefs[2 * i];
                int other = equalityRefs[2 * i + 1];
                int oneBit = 1 << one / MOST_COLUMNS;
                int otherBit = 1 << other / MOST_COLUMNS;
                if ((oneBit & leftSet) != 0 && (otherBit & rightSet) != 0) {
                    return isRight ? other : one;
                }
                if ((oneBit & rightSet) != 0 && (otherBit & leftSet) != 0) {
                    return isRight ? one : other;
                }
            }
            return NONE;
        }

        Index findIndex(Table of, int column) {
            for (int i = 0; i < indexes.length; i++) {
                if (indexes[i] != null && indexes[i].of == of && indexes[i].column == column) {
                    return indexes[i];
                }
            }
            return null;
        }

        private Index indexOf(int ref) {
            Table table = ref < 0 ? null : tableOf(ref / MOST_COLUMNS);
            return table == null ? null : findIndex(table, ref % MOST_COLUMNS);
        }

        /** The cost of the plan that was read last. */
        long costOfPlan(int room) {
            long sum = 0;
            for (int i = 0; i < nodes; i++) {
                if (nodeKinds[i] == LEAF) {
                    continue;
                }
                long e = estimates[nodeSets[nodeLefts[i]]];
                long f = estimates[nodeSets[nodeRights[i]]];
                if (nodeKinds[i] == 'x') {
                    sum += e * f;
                } else if (nodeKinds[i] == 'h') {
                    sum += f > room ? 2 * (e + f) : e + f;
                } else if (nodeKinds[i] == 'm') {
                    sum += (1 + passes(e, room)) * e + (1 + passes(f, room)) * f;
                } else {
                    sum += e * (1 + entriesForEach(i));
                }
            }
            return sum;
        }

        private long entriesForEach(int node) {
            int ref = joinRef(node, true);
            Table table = ref == NONE ? null : tableOf(ref / MOST_COLUMNS);
            return table == null ? 0 : upwards(table.count, Math.max(1, tallyOf(ref)));
        }

        /** Finds the BEST plan; the plans are tried by their texts, so the first one of the least cost it is. */
        long findBest(int room) {
            long least = 0;
            bestPlan.setLength(0);
            for (int way = 0; way < waysToTry(); way++) {
                if (!isTryLawful(way)) {
                    continue;
                }
                long found = costOfPlan(room);
                if (bestPlan.length() == 0 || found < least) {
                    least = found;
                    bestPlan.setLength(0);
                    for (int i = 0; i < tried.length(); i++) {
                        bestPlan.append(tried.charAt(i));
                    }
                }
            }
            return least;
        }

        /** Whether no lawful plan has a lesser cost. */
        boolean isLeast(long least, int room) {
            for (int way = 0; way < waysToTry(); way++) {
                if (isTryLawful(way) && costOfPlan(room) < least) {
                    return false;
                }
            }
            return isLawful(bestPlan) && costOfPlan(room) == least;
        }

        private int waysToTry() {
            return asked.sources == 1 ? 1 : asked.sources == 2 ? PLANS_OF_TWO : MOST_WAYS;
        }

        private boolean isTryLawful(int way) {
            tried.setLength(0);
            if (asked.sources == 1) {
                tried.append('0');
            } else if (asked.sources == 2) {
                tellJoin(way / 8, way / 2 % 4, way % 2);
            } else {
                tellTwoJoins(way);
            }
            return tried.length() > 0 && isLawful(tried);
        }

        private static char joinSign(int nth) {
            return nth == 0 ? 'h' : nth == 1 ? 'i' : nth == 2 ? 'm' : 'x';
        }

        private void tellJoin(int left, int op, int right) {
            if (left == right) {
                return;
            }
            tried.append('(');
            tried.append((char) ('0' + left));
            tried.append(joinSign(op));
            tried.append((char) ('0' + right));
            tried.append(')');
        }

        /** First all that join the first two sources, then all that join the last two: so the texts grow. */
        private void tellTwoJoins(int way) {
            int first = way / 144 % 3;
            int second = way / 12 % 3;
            int third = way % 3;
            if (first == second || second == third || first == third) {
                return;
            }
            char op = joinSign(way / 36 % 4);
            char nextOp = joinSign(way / 3 % 4);
            tried.append('(');
            if (way < 432) {
                tellJoin(first, way / 36 % 4, second);
                tried.append(nextOp);
                tried.append((char) ('0' + third));
            } else {
                tried.append((char) ('0' + first));
                tried.append(op);
                tellJoin(second, way / 3 % 4, third);
            }
            tried.append(')');
        }

        // -- tasks

        /** Lays the tasks of the plan that was read last, of an answer that was worked out. */
        void layTasks(Run run, Answers answer) {
            machine.prepare(asked, moment);
            for (int i = 0; i < nodes; i++) {
                if (nodeKinds[i] == LEAF) {
                    if (!isLookedUp(i)) {
                        layScan(run, i);
                    }
                } else {
                    layJoin(run, i);
                }
            }
            if (asked.isGrouped) {
                run.addPassTask(Run.GROUP, answer.joined, answer.found);
            } else if (asked.hasOver()) {
                run.addPassTask(Run.WINDOW, answer.joined, answer.joined);
            }
            run.addPassTask(Run.ORDER, answer.found, answer.found);
            run.addTask(Run.GIVE, answer.found, answer.count, run.batches(answer.count), 0);
        }

        /** Whether a source is read by an index alone. */
        private boolean isLookedUp(int leaf) {
            for (int i = 0; i < nodes; i++) {
                if (nodeKinds[i] == 'i' && nodeRights[i] == leaf) {
                    return true;
                }
            }
            return false;
        }

        private static int sourceOf(int set) {
            return set == 1 ? 0 : set == 2 ? 1 : 2;
        }

        private void layScan(Run run, int node) {
            int source = sourceOf(nodeSets[node]);
            Table table = tableOf(source);
            int all = table == null ? 0 : table.zones();
            run.addTask(Run.SCAN, reads[source], machine.countRows(asked, nodeSets[node]), all - shutZones[source], 0);
            run.zonesLeft += shutZones[source];
            run.zonesAll += all;
        }

        private void layJoin(Run run, int node) {
            int leftSet = nodeSets[nodeLefts[node]];
            int e = machine.countRows(asked, leftSet);
            int f = machine.countRows(asked, nodeSets[nodeRights[node]]);
            int out = machine.countRows(asked, nodeSets[node]);
            int both = run.batches(e) + run.batches(f);
            if (nodeKinds[node] == 'x') {
                run.addTask(Run.JOIN_X, e + f, out, run.batches(e) * run.batches(f), 0);
            } else if (nodeKinds[node] == 'h') {
                boolean isTooMuch = f > run.room;
                run.addTask(Run.JOIN_H, e + f, out, isTooMuch ? 2 * both : both, isTooMuch ? e + f : 0);
            } else if (nodeKinds[node] == 'm') {
                int p = passes(e, run.room);
                int q = passes(f, run.room);
                int steps = (1 + p) * run.batches(e) + (1 + q) * run.batches(f);
                run.addTask(Run.JOIN_M, e + f, out, steps, p * e + q * f);
            } else {
                int there = foundRows(node, leftSet);
                run.addTask(Run.JOIN_I, e + there, out, run.batches(e) + run.batches(there), 0);
            }
        }

        /** FOUND: the entries that are looked up for the rows of the left part, dead versions' too. */
        private int foundRows(int node, int leftSet) {
            Index index = indexOf(joinRef(node, true));
            int ref = joinRef(node, false);
            if (index == null || ref == NONE) {
                return 0;
            }
            int sum = 0;
            int many = machine.startRows(leftSet);
            for (int i = 0; i < many; i++) {
                if (machine.stays(asked, leftSet)) {
                    machine.reckonRef(ref);
                    if (!machine.isResultLack()) {
                        sum += index.countLike(machine.result());
                    }
                }
                machine.advanceRow(leftSet);
            }
            return sum;
        }
    }

    /** A run: its tasks, how far it is, and the answer that it gives bit by bit. */
    private static final class Run {
        static final int SCAN = 0, JOIN_X = 1, JOIN_H = 2, JOIN_M = 3, GROUP = 4, WINDOW = 5, ORDER = 6, GIVE = 7;
        static final int JOIN_I = 8;
        private static final int MOST_TASKS = 8;
        private static final int PARTS = 5;
        private static final int TASK_STEPS = 3, TASK_SPILLED = 4;

        final int moment;
        final int batch;
        final int room;
        int state = GOING;
        int task = 0;
        private int stepsInTask = 0;
        int stepsDone = 0;
        private final int[] tasks = new int[MOST_TASKS * PARTS];
        int taskCount = 0;
        int zonesLeft = 0;
        int zonesAll = 0;
        private int rowCount = 0;
        int items = 0;
        long[] values = new long[0];
        boolean[] lacking = new boolean[0];
        private long sumAtFirst = 0;

        Run(int moment, int batch, int room) {
            this.moment = moment;
            this.batch = batch;
            this.room = room;
        }

        /** The tables may change while the run gives its answer, so it keeps its own. */
        void copyAnswer(Answers answer) {
            rowCount = answer.count;
            items = answer.items;
            values = new long[rowCount * items];
            lacking = new boolean[rowCount * items];
            for (int row = 0; row < rowCount; row++) {
                for (int item = 0; item < items; item++) {
                    values[row * items + item] = answer.valueAt(row, item);
                    lacking[row * items + item] = answer.isLack(row, item);
                }
            }
            sumAtFirst = answer.sumOfAll();
        }

        /** C(n): the batches of n rows. */
        int batches(int many) {
            return batch < 1 ? many : many / batch + (many % batch == 0 ? 0 : 1);
        }

        void addTask(int kind, int in, int out, int steps, int spilled) {
            if (taskCount >= MOST_TASKS) {
                return;
            }
            int begin = taskCount * PARTS;
            tasks[begin] = kind;
            tasks[begin + 1] = in;
            tasks[begin + 2] = out;
            tasks[begin + TASK_STEPS] = steps;
            tasks[begin + TASK_SPILLED] = spilled;
            taskCount++;
        }

        /** Adds a task that goes over its rows once and once more for each pass. */
        void addPassTask(int kind, int in, int out) {
            int passes = Planner.passes(in, room);
            addTask(kind, in, out, (1 + passes) * batches(in), passes * in);
        }

        int taskPart(int asked, int part) {
            boolean isThere = asked >= 0 && asked < taskCount && part >= 0 && part < PARTS;
            return isThere ? tasks[asked * PARTS + part] : NONE;
        }

        /** Goes on to the next task that is not over. */
        void goOn() {
            for (int i = 0; i < MOST_TASKS && task < taskCount && stepsInTask >= taskPart(task, TASK_STEPS); i++) {
                task++;
                stepsInTask = 0;
            }
            if (task >= taskCount) {
                state = OVER;
            }
        }

        int doSteps(int many) {
            int done = 0;
            for (int i = 0; i < MOST_TASKS && state == GOING && done < many; i++) {
                int now = Math.min(many - done, taskPart(task, TASK_STEPS) - stepsInTask);
                done += now;
                stepsInTask += now;
                goOn();
            }
            stepsDone += done;
            return done;
        }

        int given() {
            if (state == OVER) {
                return rowCount;
            }
            return task == taskCount - 1 ? Math.min(rowCount, batch * stepsInTask) : 0;
        }

        int spilledSoFar() {
            int sum = 0;
            for (int i = 0; i < task && i < taskCount; i++) {
                sum += taskPart(i, TASK_SPILLED);
            }
            return sum;
        }

        long sumOf(int rows) {
            long sum = 0;
            for (int i = 0; i < rows * items && i < values.length && i < lacking.length; i++) {
                sum = 31 * sum + values[i] + (lacking[i] ? 1000003 : 0);
            }
            return sum;
        }

        boolean isWell() {
            int rows = given();
            return sumOf(rowCount) == sumAtFirst && rows <= rowCount && (state != OVER || rows == rowCount);
        }
    }

    /** A question that is kept; its answer is worked out as it is asked for. */
    private static final class Kept {
        final Sentence question;
        final int number;
        boolean isLost = false;
        long looked = 0;

        Kept(Sentence question, int number) {
            this.question = question;
            this.number = number;
        }

        /** Adds the rows that are looked at behind the change that made the moment. */
        void lookAt(Table[] tables, int moment) {
            long before = 1;
            long now = 1;
            long stayed = 1;
            for (int source = 0; source < question.sources; source++) {
                Table table = tables[question.sourceTables[source]];
                if (table != null) {
                    int living = table.living(moment);
                    int born = table.countAt(moment, false);
                    before *= living - born + table.countAt(moment, true);
                    now *= living;
                    stayed *= living - born;
                }
            }
            looked += isInnerChanged(tables, moment) ? now : before - stayed + (now - stayed);
        }

        private boolean isInnerChanged(Table[] tables, int moment) {
            for (int inner = 0; inner < question.code.inners; inner++) {
                int many = question.code.innerPart(inner, Code.INNER_TABLES);
                for (int i = 0; i < many && i < 2; i++) {
                    int number = question.code.innerPart(inner, Code.INNER_TABLE + i);
                    Table table = number >= 0 && number < MOST_TABLES ? tables[number] : null;
                    if (table != null && table.countAt(moment, false) + table.countAt(moment, true) > 0) {
                        return true;
                    }
                }
            }
            return false;
        }
    }

    /** A writer: its views of the tables, and what it ended of those as of its START. */
    private static final class Writer {
        static final int OPEN = 0, THROUGH = 1, REFUSED = 2, GIVEN_UP = 3;
        /** A set puts as many versions behind a view as it ends, before those are taken out. */
        private static final int MOST_SEEN = 2 * MOST_VERSIONS;
        private static final int MOST_DONE = 512;

        final int start;
        final boolean isStrict;
        int state = OPEN;
        private final Table[] views = new Table[MOST_TABLES];
        private final int[][] ended = new int[MOST_TABLES][MOST_VERSIONS];
        final int[] endedCounts = new int[MOST_TABLES];
        /** What a STRICT one set and dropped. */
        final Sentence[] done;
        int doneCount = 0;

        Writer(int start, boolean isStrict, Table[] tables) {
            this.start = start;
            this.isStrict = isStrict;
            done = new Sentence[isStrict ? MOST_DONE : 0];
            for (int i = 0; i < MOST_TABLES; i++) {
                if (tables[i] != null) {
                    views[i] = newView(tables[i], start);
                }
            }
        }

        private static Table newView(Table real, int start) {
            Table made = new Table(real.columns, MOST_SEEN, true);
            for (int place = 0; place < real.count; place++) {
                if (real.isAlive(place, start)) {
                    int put = made.addLike(real, place, start);
                    if (put >= 0) {
                        made.names[put] = real.names[place];
                    }
                }
            }
            return made;
        }

        /** The view of a table; of one that was made later there is none until it is asked for. */
        Table viewOf(int number, Table real) {
            if (number < 0 || number >= MOST_TABLES || real == null) {
                return null;
            }
            if (views[number] == null) {
                views[number] = new Table(real.columns, MOST_SEEN, true);
            }
            return views[number];
        }

        /** Notes which versions as of the START have just been ended, and takes all ended ones out of the view. */
        void noteEnded(int number, Table view) {
            for (int place = 0; place < view.count; place++) {
                boolean isNoted = view.died[place] != NONE && view.names[place] != NONE;
                if (isNoted && endedCounts[number] < MOST_VERSIONS) {
                    ended[number][endedCounts[number]] = view.names[place];
                    endedCounts[number]++;
                }
            }
            view.dropDead();
        }

        void noteDone(Sentence told) {
            if (doneCount < done.length) {
                done[doneCount] = told;
                doneCount++;
            }
        }

        int putCount(int number) {
            Table view = number >= 0 && number < MOST_TABLES ? views[number] : null;
            int sum = 0;
            for (int place = 0; view != null && place < view.count; place++) {
                if (view.names[place] == NONE) {
                    sum++;
                }
            }
            return sum;
        }

        /** Whether a version that it ended has died since. */
        boolean isOvertaken(Table[] tables) {
            for (int number = 0; number < MOST_TABLES; number++) {
                for (int i = 0; i < endedCounts[number]; i++) {
                    int place = tables[number] == null ? NONE : tables[number].placeOf(ended[number][i]);
                    if (place == NONE || tables[number].died[place] != NONE) {
                        return true;
                    }
                }
            }
            return false;
        }

        /** Does to a table what it did to its view. */
        void passOn(int number, Table real, int moment) {
            for (int i = 0; i < endedCounts[number]; i++) {
                int place = real.placeOf(ended[number][i]);
                if (place != NONE) {
                    real.died[place] = moment;
                }
            }
            Table view = views[number];
            for (int place = 0; view != null && place < view.count; place++) {
                if (view.names[place] == NONE) {
                    real.addLike(view, place, moment);
                }
            }
        }

        boolean isWell() {
            for (int number = 0; number < MOST_TABLES; number++) {
                Table view = views[number];
                for (int place = 0; view != null && place < view.count; place++) {
                    for (int i = 0; i < endedCounts[number]; i++) {
                        if (view.names[place] == ended[number][i]) {
                            return false;
                        }
                    }
                }
            }
            return true;
        }
    }
}
