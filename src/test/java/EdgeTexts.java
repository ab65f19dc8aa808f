/** Boundary cases of texts and their faults: section 3 and the promises 1 to 5. */
public final class EdgeTexts extends Edges {
    public static void main(String[] args) {
        newObject();
        typing();
        wiping();
        output();
        tokens();
        wordsOfTheSection();
        nothingIsLeft();
        readManyTimes();
        words();
        refs();
        blanks();
        longTokens();
        grammarOfChanges();
        grammarOfQuestions();
        grammarOfTests();
        someAndIn();
        limits();
        openOnes();
        tooEarly();
        strangeTables();
        strangeRefs();
        strangePuts();
        strangeAggregates();
        strangeInGrouped();
        firstFault();
        finish();
    }

    // ---- what is told of a text; the sign ^ stands ahead of the token with the fault, and is taken out

    private static void told(String marked, int kind) {
        x = new Columnworks();
        x.table(2);
        x.table(5);
        String text = marked.replace("^", "");
        int place = kind == 0 ? -1 : marked.indexOf('^');
        type(text);
        due(kind + " at " + place, "fault of " + text, () -> fault());
        due(kind + " at " + place, "fault of " + text + " again", () -> fault());
        due(text.length(), "the length of " + text, () -> x.type(0));
    }

    private static void kind1(String marked) {
        told(marked, 1);
        unused(marked);
    }

    private static void kind2(String marked) {
        told(marked, 2);
        unused(marked);
    }

    private static void unused(String marked) {
        x.begin(false);
        refused(ARGUMENT, "ask() of " + marked, () -> x.ask());
        refused(ARGUMENT, "change() of " + marked, () -> x.change());
        refused(ARGUMENT, "write() of " + marked, () -> x.write(0));
    }

    private static void well(String text) {
        told(text, 0);
        x.begin(false);
        boolean isQuestion = text.trim().startsWith("from");
        if (isQuestion) {
            refused(ARGUMENT, "change() of " + text, () -> x.change());
            refused(ARGUMENT, "write() of " + text, () -> x.write(0));
            due(0, "ask() of " + text, () -> x.ask());
        } else {
            refused(ARGUMENT, "ask() of " + text, () -> x.ask());
            due(text.trim().startsWith("put") ? 1 : 0, "change() of " + text, () -> x.change());
        }
        due(0, "the text is emptied", () -> x.wipe());
    }

    // ---- promises 1, 2, 3, 5

    private static void newObject() {
        edge("promise 1", "without tables, questions and runs, at the moment 0, with an empty text and an empty OUTPUT");
        due(0, "type(0)", () -> x.type(0));
        due("1 at 0", "fault", () -> fault());
        due(-1, "output(0)", () -> x.output(0));
        due(0, "moment()", () -> x.moment());
        due(BOUNDS, "tableAt(0, 0)", () -> x.tableAt(0, 0));
        due(BOUNDS, "questionAt(0, 0)", () -> x.questionAt(0, 0));
        due(BOUNDS, "runAt(0, 0)", () -> x.runAt(0, 0));
        due(BOUNDS, "indexAt(0, 0)", () -> x.indexAt(0, 0));
        due(BOUNDS, "keptAt(0, 0)", () -> x.keptAt(0, 0));
        due(BOUNDS, "writerAt(0, 0)", () -> x.writerAt(0, 0));
        due(0, "errors()", () -> x.errors());
        due(0, "wipe()", () -> x.wipe());

        edge("What it is", "An object is used for at most 512 calls");
        for (int i = 0; i < 511; i++) {
            due(1, "the call " + i, i % 2 == 0 ? () -> x.type('a') : () -> x.wipe());
        }
        due(1, "the 512th call", () -> x.wipe());
    }

    private static void typing() {
        edge("promise 2", "the bytes of a number, the highest one first, without those that are 0");
        x.table(1);
        due(0, "no byte", () -> x.type(0));
        due(8, "eight bytes", () -> x.type(0x7075742061203132L));
        due(9, "the lowest byte", () -> x.type(0x3bL));
        due(1, "put a 12;", () -> x.change());
        due("12", "put a 12;", () -> versions(0));
        due(1, "the highest byte", () -> x.type(0x7000000000000000L));
        due(2, "one in the middle", () -> x.type(0x0000007500000000L));
        due(4, "two with a 0 between", () -> x.type(0x7400000000000020L));
        due(9, "and 0 at both ends", () -> x.type(0x00612d3700323b00L));
        due(1, "put a-72;", () -> x.change());
        due("12|-72", "put a-72;", () -> versions(0));

        edge("promise 2", "IllegalArgumentException if a byte is neither 0 nor 32 to 126");
        int[] edges = {1, 31, 127, 128, 255};
        type("abc");
        for (int code : edges) {
            for (int shift = 0; shift < 64; shift += 8) {
                long signs = (long) code << shift;
                refused(ARGUMENT, "type(" + signs + ")", () -> x.type(signs));
                long among = signs | 0x6161616161616161L & ~(255L << shift);
                refused(ARGUMENT, "type(" + among + ")", () -> x.type(among));
            }
        }
        refused(ARGUMENT, "type(-1)", () -> x.type(-1));
        refused(ARGUMENT, "the least long", () -> x.type(Long.MIN_VALUE));
        refused(ARGUMENT, "the greatest long", () -> x.type(Long.MAX_VALUE));
        due(4, "32", () -> x.type(32));
        due(5, "126", () -> x.type(126));
        due(7, "32 and 126 at the top", () -> x.type(0x207eL << 48));
        due("1 at 0", "abc  ...", () -> fault());
        due(7, "wipe()", () -> x.wipe());

        edge("promise 2", "IllegalStateException if the text would be longer than 200 signs");
        for (int i = 0; i < 24; i++) {
            x.type(0x2020202020202020L);
        }
        due(199, "199", () -> type("   from"));
        refused(STATE, "two more", () -> x.type(0x6161L));
        refused(STATE, "eight more", () -> x.type(0x6161616161616161L));
        due(199, "none more", () -> x.type(0));
        due(200, "one more", () -> x.type(0x61L << 24));
        due(200, "none more", () -> x.type(0));
        refused(STATE, "the 201st", () -> x.type(0x61));
        refused(STATE, "the 201st", () -> x.type(0x2000000000000000L));
        due("1 at 195", "all 200 are read", () -> fault());
        due(200, "wipe()", () -> x.wipe());
        due(1, "there is room again", () -> x.type(0x61));

        edge("promise 2", "If several exceptions apply to a call, the one that is listed first is thrown");
        for (int i = 0; i < 25; i++) {
            x.type(0x2020202020202020L);
        }
        refused(ARGUMENT, "a wrong byte of a text too long", () -> x.type(0x611fL));
        refused(ARGUMENT, "a wrong byte alone", () -> x.type(127));
    }

    private static void wiping() {
        edge("promise 3", "Returns its length before");
        due(0, "of an empty text", () -> x.wipe());
        type("0123456789");
        due(10, "of ten signs", () -> x.wipe());
        due(0, "and then", () -> x.wipe());
        due("1 at 0", "the text is empty", () -> fault());
    }

    private static void output() {
        edge("promise 5", "NONE if there is no such sign; what program() or best() wrote last (empty at first)");
        x.table(1);
        ask("from a where v0<5 take v0+1;");
        due(-1, "output(0) at first", () -> x.output(0));
        due(6, "program", () -> x.program(0, 0, 0));
        due('v', "output(0)", () -> (char) x.output(0));
        due('<', "output(5)", () -> (char) x.output(5));
        due(-1, "output(6)", () -> x.output(6));
        due(-1, "output(-1)", () -> x.output(-1));
        due(-1, "output of the least int", () -> x.output(LEAST_INT));
        due(-1, "output of the greatest int", () -> x.output(GREATEST_INT));
        x.wipe();
        due("v0 5 <", "it is not the text", () -> out());
        x.best(0, 0, 2);
        due("0", "a shorter one", () -> out());
        due(-1, "nothing is left of the longer one", () -> x.output(1));
        refused(NONE_SUCH, "program(0, 0, 1)", () -> x.program(0, 0, 1));
        refused(ARGUMENT, "best with a room of 1", () -> x.best(0, 0, 1));
        due("0", "what throws writes nothing", () -> out());
        x.cost(0, 0, typedPlan());
        due("0", "cost() writes nothing", () -> out());
        x.wipe();
        x.program(0, 1, 0);
        x.open(0, 0, 1, 2);
        due("v0 1 +", "open() with the BEST plan writes nothing", () -> out());
    }

    private static int typedPlan() {
        text("0");
        return 2;
    }

    // ---- tokens

    private static void tokens() {
        edge("section 3", "A number has 1 to 9 digits");
        well("from a take 0;");
        well("from a take 999999999;");
        well("from a take 000000001;");
        kind1("from a take ^0000000001;");
        kind1("from a take ^9999999999;");
        kind1("from a take 1+^1234567890;");
        well("put a 999999999,-999999999;");
        kind1("put a ^1000000000,1;");
        kind1("put a -^1000000000,1;");
        well("from a take 1 first 999999999;");
        kind1("from a take 1 first ^1000000000;");
        well("from a take 1 first 0;");
        kind1("^1234567890");

        edge("section 3", "A sign that begins no token can't stand anywhere");
        for (char sign = 32; sign < 127; sign++) {
            if ("!\"#$%&.:>?@\\^_`{|}~".indexOf(sign) < 0 && !(sign >= 'A' && sign <= 'Z')) {
                continue;
            }
            x = new Columnworks();
            x.table(2);
            String text = "from a take v0" + sign + ";";
            type(text);
            due("1 at 14", "fault of " + text, () -> fault());
            x.wipe();
            x.type(sign);
            due("1 at 0", "fault of the sign alone", () -> fault());
        }
        kind1("from a take 1^.5;");
        kind1("^From a take 1;");
        kind1("from ^A take 1;");
        kind1("from a take ^V0;");

        edge("section 3", "A row of letters that is no word of this section and no table, column or ref");
        kind1("^fro a take 1;");
        kind1("^fromm a take 1;");
        kind1("from ^e take 1;");
        kind1("from ^u take 1;");
        kind1("from a take ^u0;");
        kind1("from a take ^a0;");
        kind1("from a take ^vw;");
        kind1("from ^aa take 1;");
        kind1("from a take ^totals(v0);");
        kind1("from a take ^tota(v0);");
        kind1("from a take v0 order ^downv0;");
    }

    /** Each word of the section in a text that is well, and then with letters changed, left out and put in. */
    private static void wordsOfTheSection() {
        edge("section 3", "a row of letters that is no word of this section");
        String all = "from a,a where not lacks v0 or v0=1 and some(from b)or v0 in(from b take v2)by v0 with count=1"
                + " take total(w0),least(w1),most(w0)order down v0 first 1;";
        String over = "from a take rank over(along v0),run(v0)over(v0 along w0);";
        String[] texts = {all, over, "put a lack,1;", "set a v=1 where v=1;", "drop a;"};
        int found = 0;
        for (String text : texts) {
            well(text);
            for (int begin = 0; begin < text.length(); begin++) {
                int end = begin;
                while (end < text.length() && Character.isLetter(text.charAt(end))) {
                    end++;
                }
                if (end - begin > 1 && (begin == 0 || !Character.isLetter(text.charAt(begin - 1)))) {
                    found++;
                    changed(text, begin, end);
                }
            }
        }
        int words = found;
        due(35, "the words", () -> words);
    }

    private static void changed(String text, int begin, int end) {
        String ahead = text.substring(0, begin) + "^";
        String word = text.substring(begin, end);
        String behind = text.substring(end);
        for (int i = 0; i < word.length(); i++) {
            told(ahead + word.substring(0, i) + "q" + word.substring(i + 1) + behind, 1);
            told(ahead + word.substring(0, i) + word.substring(i + 1) + behind, 1);
            told(ahead + word.substring(0, i) + "q" + word.substring(i) + behind, 1);
        }
        told(ahead + word + "s" + behind, 1);
        told(ahead + word + word + behind, 1);
    }

    private static void nothingIsLeft() {
        edge("promise 4", "the fault of the text: nothing is left of the one ahead");
        x.table(2);
        x.table(5);
        String much = "from b,a,b where [v0=1]and v0=v1 and some(from a)by v0,w0 with count=2 take v0,total(w0),3 order down v0,w0 first 1";
        text(much);
        due("1 at " + much.indexOf("a)by"), "a text with much in it", () -> fault());
        refused(ARGUMENT, "ask()", () -> x.ask());
        text("from b,a where [v0=1]and v0=v1 and some(from a)by v0,w0 with count=2 take v0,total(w0),3 order down v0,w0 first 1,");
        due(1, "a text with much in it", () -> x.fault(true));
        due(0, "a text with little in it", () -> ask("from a take v0,w0;"));
        due("1 0 2 0 0 0", "the question", () -> questionAt(0));
        change("put a 3,lack;");
        change("put a 2,lack;");
        runOn(x.open(0, 2, 1, 2));
        due("3 ?|2 ?", "its answer", () -> given(0, 2));
        refused(NONE_SUCH, "no with", () -> x.program(0, 3, 0));
        text("from a by w0 take rank over(along v0),count,-(total(v0");
        due("1 at 54", "a text that breaks off within brackets", () -> fault());
        text("from a where some(from b where not -(v1");
        due("1 at 39", "a text that breaks off within an inner question", () -> fault());
        due(1, "then one that has ten open", () -> ask("from a take ----------v0,rank over(along v0);"));
        due(0, "not GROUPED", () -> x.questionAt(1, 4));
        text("set a v=w where v=1");
        due("1 at 19", "a set", () -> fault());
        due(2, "then a drop without a test", () -> change("drop a;"));
        text("from a where count=1 take v1;");
        due("2 at 13", "a fault of kind 2", () -> fault());
        text("from a where v0=1 take v0,");
        due("1 at 26", "then one of kind 1", () -> fault());
        text("from a where v0=1 take v0;");
        due("0 at -1", "then none", () -> fault());
    }

    private static void readManyTimes() {
        edge("promise 4", "the fault of the text: however often it is asked");
        x.table(2);
        text("from a where v0=1 and[w0=2 or lacks v0]take v0+w0*2-1,-v0 order down v0-w0,w0+1,v0;");
        for (int i = 0; i < 60; i++) {
            due("0 at -1", "the fault", () -> fault());
        }
        due(0, "ask()", () -> x.ask());
        due("1 2 2 3 0 0", "the question", () -> questionAt(0));
        due("w0 2 = v0 lacks or", "its conjunct", () -> program(0, 0, 1));
        due("v0 w0 2 * + 1 -", "its item", () -> program(0, 1, 0));
        due("w0 1 +", "its key", () -> program(0, 2, 1));
        text("from a where some(from a)or some(from a,a where v1=v2)or v0 in(from a where w1=1 take v1)take v0;");
        for (int i = 0; i < 30; i++) {
            due("0 at -1", "the fault", () -> fault());
        }
        due(1, "ask()", () -> x.ask());
        due("from a some from a a v1 v2 = where some or v0 from a w1 1 = where v1 in or", "inner questions", () -> program(1, 0, 0));

        edge("promise 4", "the fault of a question: the next one has its own sources in its conjuncts");
        x.table(1);
        x.table(1);
        x.fill(0, 5, 0, 1, 10, false);
        x.fill(1, 3, 0, 1, 10, false);
        text("from a,b where v0=v1 and v1=v0 take v0;");
        due("0 at -1", "conjuncts of both sources", () -> fault());
        ask("from a,b where v0<2 and v1=2 take v0;");
        runOn(open("(0x1)", 0, 64, 64));
        due("0 5 2 1 0|0 3 1 1 0|1 3 2 1 0|6 2 2 1 0|7 2 2 1 0", "conjuncts of one source each", () -> tasks(0));
    }

    private static void words() {
        edge("section 3", "A word is 1 to 8 letters a to z between two signs '");
        well("put a 'a','zzzzzzzz';");
        kind1("put a ^'','a';");
        kind1("put a ^'abcdefghi','a';");
        kind1("put a ^'a b','a';");
        kind1("put a ^' a','a';");
        kind1("put a ^'A','a';");
        kind1("put a ^'a1','a';");
        kind1("put a ^'a,'a';");
        kind1("from a take ^'abc;");
        kind1("from a take ^'abc");
        kind1("from a take ^'");
        kind1("^'");
        kind1("from a take 'a'^'b';");
        well("from a take 'a'+'b';");

        edge("section 3", "digits by 27 (a is 1, z is 26), eight of them, with 0 behind the last letter");
        x.table(1);
        String[] words = {"a", "aaaaaaaa", "aaaaaaab", "aaaaaab", "ab", "b", "z", "za", "zzzzzzz", "zzzzzzzz"};
        for (int i = 0; i < words.length; i++) {
            int place = i;
            change("put a '" + words[i] + "';");
            due(numberOf(words[i]), "the number of " + words[i], () -> x.value(0, place, 0));
            due(true, "numbers of words are ordered as words are", () -> place == 0 || x.value(0, place - 1, 0) < x.value(0, place, 0));
        }
        due(10460353203L, "27 to the power of 7", () -> x.value(0, 0, 0));
        due(282429536480L, "27 to the power of 8, less 1", () -> x.value(0, 9, 0));
    }

    private static long numberOf(String word) {
        long number = 0;
        for (int i = 0; i < 8; i++) {
            number = number * 27 + (i < word.length() ? word.charAt(i) - 'a' + 1 : 0);
        }
        return number;
    }

    private static void refs() {
        edge("section 3", "In a question a ref is a letter v to z and a digit 0 to 2 right behind it");
        well("from b take v0,w0,x0,y0,z0;");
        well("from b,b,b take v0,v1,v2;");
        kind1("from a take ^v3;");
        kind1("from a take ^v9;");
        kind1("from a take ^v;");
        kind1("from a take ^v 0;");
        kind1("from a take ^z;");
        kind1("from a take v0^1;");
        kind1("from a take v0^0;");
        kind1("from a take v0^w0;");
        kind1("from a by ^v take 1;");
        kind1("from a by ^1 take 1;");
        kind1("from a take rank over(along ^v);");

        edge("section 3", "In a change a column, and a ref, is a letter v to z");
        well("set b v=z where y=x;");
        kind1("set a ^v0=1;");
        kind1("set a v=^v0;");
        kind1("set a v=v where ^v0=1;");
        kind1("drop a where ^w1=1;");
        kind1("set a ^a=1;");
        kind1("set a ^u=1;");
        kind1("set a v=^u;");
        // v3 is no token: v is one, and 3 another one behind it
        kind1("set a v^3=1;");
        kind1("set a v=v^3;");

        edge("section 3", "A row of letters that is one letter v to z, with a digit 0 to 2 right behind it, is one token with this digit");
        kind1("from a take v2^2;");
        kind1("from a take v0^1+w0;");
        kind1("from a take v0^12345678;");
        kind1("from a take 1+v0^'a';");
        kind1("from a where v0^1=1 take 1;");
        kind1("from a take 1 order w0^0;");
        kind1("set a v=^v01;");
        kind1("set a ^w10=1;");
        edge("section 3", "a row of letters with other digits behind it is not");
        kind1("from a take ^v30;");
        kind1("from a take ^vv0;");
        kind1("from a take ^av0;");
        kind1("from ^v0 take 1;");
        kind1("from a^0 take v0;");
        kind1("set a v=w^30;");
        kind1("set a v=w^9;");
        well("from a where v0=1and1=v0 take 1first0;");

        edge("section 3", "A table is a letter a to d");
        x.table(1);
        x.table(1);
        x.table(1);
        x.table(1);
        type("from a,b,c take 1;");
        due("0 at -1", "a, b, c", () -> fault());
        text("from d take 1;");
        due("0 at -1", "d", () -> fault());
        text("from e take 1;");
        due("1 at 5", "e", () -> fault());
        text("put e 1;");
        due("1 at 4", "put e", () -> fault());
        text("put v 1;");
        due("1 at 4", "put v", () -> fault());
        text("from a0 take 1;");
        due("1 at 6", "a0", () -> fault());

        edge("section 3", "a table can be a source more than once; the column of the source with this number");
        x.table(1);
        x.table(2);
        change("put a 1;");
        change("put a 2;");
        change("put b 3,4;");
        due("1 1 3|1 2 3|2 1 3|2 2 3", "a, a and b", () -> solved("from a,a,b take v0,v1,v2;"));
        due("4 1|4 2", "b and a", () -> solved("from b,a take w0,v1;"));

        edge("section 3", "their numbers go on behind those of the question, for each inner one anew; within its brackets alone");
        well("from a where some(from b where z1=v0) and some(from a where w1=v0) take v0;");
        kind2("from a where some(from b where z1=v0) and some(from a where ^x1=v0) take v0;");
        kind2("from a where some(from b where z1=v0) and ^z1=1 take v0;");
        kind2("from a where ^v1=1 and some(from b where v1=v0) take v0;");
        kind2("from a where some(from b where ^v2=v0) take v0;");
        kind2("from a where ^v1 in(from b take v1) take v0;");
        kind2("from a where v0 in(from b take z1) take ^v1;");
        well("from a where some(from b,a where z1=w2) take v0;");
        kind2("from a where some(from b,a where ^z2=w1) take v0;");
        well("from a,b where some(from a where w2=z1) take v0;");
    }

    private static void blanks() {
        edge("section 3", "Blanks can stand between tokens, ahead of the first and behind the last one, and mean nothing else");
        well("   from   a   take   v0   ;   ");
        well("from a,b where v0<=v1 take total ( v0 ) , count order down count first 3 ;");
        well("from a take rank over(along v0),run(v0)over(w0 along v0);");
        kind1("^fr om a take 1;");
        kind1("from a take ^v 0;");
        kind1("from a take 1 ^2;");
        kind1("from a where v0< ^=1 take 1;");
        kind1("from a where v0< ^>1 take 1;");
        kind1("put a ^'a ',1;");
        well("put a-1 ,- 1;");
        well("  put b   1,2,3,4,5;");
        kind1("^froma take 1;");
    }

    private static void longTokens() {
        edge("section 3", "numbers and rows of letters are as long as they go, and so are the signs <= and <>");
        kind1("from a ^takev0;");
        kind1("from a ^wherev0=1 take 1;");
        kind1("from a take rank over(^alongv0);");
        kind1("from a where ^notlacks v0 take 1;");
        kind1("from a ^byv0 take v0;");
        well("from a take 1order 1first 1;");
        well("from a where v0=1and w0=2or v0=3take 1;");
        well("from a where lacks-v0 and not[v0=1]and not-v0=1 take-v0;");
        well("from a take rank over(v0along w0);");
        well("from a by v0with count=1take v0;");
        kind1("from a take 1 ^firsts 3;");
        well("from a take 1 first3;");
        well("from a take 1 order1;");
        well("from a where 1<=2 take 1;");
        well("from a where 1<>2 take 1;");
        well("from a where 1<-2 take 1;");
        kind1("from a where 1<=^<2 take 1;");
        kind1("from a where 1<=^=2 take 1;");
        kind1("from a where 1=^<2 take 1;");
        kind1("from a where 1^>2 take 1;");
        kind1("from a where 1^>=2 take 1;");
        kind1("from a where 1<>^=2 take 1;");
        kind1("from a where 1<^<2 take 1;");
        kind1("set a v^<=1;");
    }

    // ---- what can stand where

    private static void grammarOfChanges() {
        edge("section 3", "change = put | set | drop");
        well("put a 1,lack;");
        well("set a v=1;");
        well("set a w=v where v=1;");
        well("drop a;");
        well("drop a where v=1;");
        kind1("put a ^;");
        kind1("put a 1,^;");
        kind1("put a ^,1;");
        kind1("put a 1,2,^;");
        kind1("put a 1 ^2;");
        kind1("put a 1,2 ^where v=1;");
        kind1("put a 1^+1,2;");
        kind1("put a ^(1),2;");
        kind1("put a -^lack,1;");
        kind1("put a -^'a',1;");
        kind1("put a -^-1,1;");
        kind1("put a ^v,1;");
        kind1("put ^1,2;");
        kind1("put^;");
        kind1("put a^,b 1,2;");
        kind1("set a^;");
        kind1("set a ^1=v;");
        kind1("set a v^,w=1;");
        kind1("set a v ^where v=1;");
        kind1("set a v=^lack;");
        kind1("set a v=1^,w=2;");
        kind1("set a v=^;");
        kind1("set a v=1 ^by v;");
        kind1("set a v=1 where^;");
        kind1("set a v=1 where v^;");
        kind1("set a v=1 where [v=1] ^[w=1];");
        kind1("drop^;");
        kind1("drop a ^v=1;");
        kind1("drop a^,b;");
        kind1("drop a where^;");
        kind1("drop a where v=1 ^first 1;");
        kind1("drop a;^;");
        kind1("drop a; ^drop a;");
        kind1("^take v0;");
        kind1("^;");
        kind1("^1");
    }

    private static void grammarOfQuestions() {
        edge("section 3", "question = from .. where .. by .. with .. take .. order .. first .. ;");
        well("from a,b where v0=v1 by v0,v1 with count<2 take v0,count order down count,v1 first 7;");
        kind1("from^;");
        kind1("from a^;");
        kind1("from a ^b take 1;");
        kind1("from a,^take 1;");
        kind1("from ^take 1;");
        kind1("from a ^order v0 take 1;");
        kind1("from a ^with count=1 take 1;");
        kind1("from a by v0 ^where v0=1 take 1;");
        kind1("from a by v0 with count=1 ^where v0=1 take 1;");
        kind1("from a by ^take 1;");
        kind1("from a by v0,^take 1;");
        kind1("from a by ^count take 1;");
        kind1("from a by v0^+1 take 1;");
        kind1("from a by ^(v0) take 1;");
        kind1("from a take ^,1;");
        kind1("from a take 1,^;");
        kind1("from a take ^order 1;");
        kind1("from a take 1 order^;");
        kind1("from a take 1 order 1,^;");
        kind1("from a take 1 order down^;");
        kind1("from a take 1 order down ^down 1;");
        kind1("from a take ^down 1;");
        kind1("from a take 1 order ^rank over(along v0);");
        kind1("from a take 1 order ^run(v0)over(along v0);");
        kind1("from a take 1+^rank over(along v0);");
        kind1("from a take rank over(along v0)^+1;");
        kind1("from a take 1 first^;");
        kind1("from a take 1 first ^-1;");
        kind1("from a take 1 first ^'a';");
        kind1("from a take 1 first ^v0;");
        kind1("from a take 1 first 1^+1;");
        kind1("from a take 1 first 1 ^order 1;");
        kind1("from a take 1 first 1 ^first 1;");
        kind1("from a take ^lack;");
        kind1("from a take 1 ^where v0=1;");
        kind1("from a take 1;^;");
        kind1("from a take 1; ^x");

        edge("section 3", "item, span");
        well("from a take rank over(along v0),rank over(v0 along v0),rank over(v0,w0 along v0);");
        kind1("from a take rank ^(along v0);");
        kind1("from a take rank over ^along v0;");
        kind1("from a take rank over(^);");
        kind1("from a take rank over(v0^);");
        kind1("from a take rank over(^,along v0);");
        kind1("from a take rank over(v0,^along v0);");
        kind1("from a take rank over(v0 ^w0 along v0);");
        kind1("from a take rank over(along^);");
        kind1("from a take rank over(along ^1);");
        kind1("from a take rank over(along v0^,w0);");
        kind1("from a take rank over(^-v0 along v0);");
        kind1("from a take rank over(v0^+1 along v0);");
        kind1("from a take rank over(along v0^+1);");
        kind1("from a take run ^over(along v0);");
        kind1("from a take run ^v0 over(along v0);");
        kind1("from a take run(^)over(along v0);");
        kind1("from a take run(v0^,w0)over(along v0);");
        kind1("from a take run(v0)^,1;");
        kind1("from a take run(v0)^;");
    }

    private static void grammarOfTests() {
        edge("section 3", "test, all, one, sum, term, unit");
        well("from a where v0=1 or v0=2 and not[w0<3 or lacks w0]take 1;");
        well("from a where not not not v0=1 take 1;");
        well("from a where lacks(v0+w0)or lacks--v0 or lacks 1 take 1;");
        well("from a where (v0+1)*2<=-(3-w0)/4 take 1;");
        well("from a take ((1)),-(-1),1*-1,1--1,1+-1;");
        kind1("from a where v0 ^take 1;");
        kind1("from a where ^take 1;");
        kind1("from a where v0=1 ^v0=2 take 1;");
        kind1("from a where v0=1^=2 take 1;");
        kind1("from a where v0<1^<2 take 1;");
        kind1("from a where v0=^take 1;");
        kind1("from a where ^=1 take 1;");
        kind1("from a where v0=1 and ^take 1;");
        kind1("from a where v0=1 or ^take 1;");
        kind1("from a where v0=1 and ^or v0=2 take 1;");
        kind1("from a where ^and v0=1 take 1;");
        kind1("from a where not ^take 1;");
        kind1("from a where v0=1 ^not v0=2 take 1;");
        kind1("from a where v0 ^not lacks v0 take 1;");
        kind1("from a where [v0=1 ^take 1;");
        kind1("from a where [v0=1^) take 1;");
        kind1("from a where [v0^] take 1;");
        kind1("from a where [^] take 1;");
        kind1("from a where [v0=1]^=1 take 1;");
        kind1("from a where [v0=1]^+1=1 take 1;");
        kind1("from a where (^[v0=1]) take 1;");
        kind1("from a where (v0^=1) take 1;");
        kind1("from a where [v0^]=1 take 1;");
        kind1("from a where lacks ^[v0=1] take 1;");
        kind1("from a where lacks v0^+1 take 1;");
        kind1("from a where lacks v0^=1 take 1;");
        kind1("from a where lacks ^not v0=1 take 1;");
        kind1("from a where lacks ^lacks v0 take 1;");
        kind1("from a take ^+1;");
        kind1("from a take 1+^+1;");
        kind1("from a take 1+^*1;");
        kind1("from a take 1*^/1;");
        kind1("from a take 1-^;");
        kind1("from a take (1^;");
        kind1("from a take (1^];");
        kind1("from a take 1^);");
        kind1("from a take (^);");
        kind1("from a take ^[1];");
        kind1("from a take ^not 1;");
        kind1("from a take ^lacks v0;");
        kind1("from a take 1^=1;");
        kind1("from a take count^(v0);");
        kind1("from a take total ^v0;");
        kind1("from a take total(^);");
        kind1("from a take total(v0^,w0);");
        kind1("from a take total^;");
        kind1("from a take v0^(1);");
    }

    private static void someAndIn() {
        edge("section 3", "Some and in can stand behind the where of a question alone (in its test, not in the sums of a comparison)");
        well("from a where some(from b)take 1;");
        well("from a where not some(from b)or[some(from b)and v0 in(from b take v1)]take 1;");
        well("from a where v0+1 in(from b take v1+1)take 1;");
        well("from a where 1 in(from b take 1)take 1;");
        kind1("from a take ^some(from b);");
        kind1("from a take v0 ^in(from b take v1);");
        kind1("from a take 1 order ^some(from b);");
        kind1("from a take 1 order v0 ^in(from b take v1);");
        kind1("from a by v0 with ^some(from b)take 1;");
        kind1("from a by v0 with v0 ^in(from b take v1)take 1;");
        kind1("from a where some(from b)by v0 with ^some(from b)take 1;");
        kind1("drop a where ^some(from b);");
        kind1("drop a where v ^in(from b take v1);");
        kind1("set a v=1 where ^some(from b);");
        kind1("set a v=^some(from b);");
        kind1("from a where v0=^some(from b)take 1;");
        kind1("from a where v0+^some(from b)take 1;");
        kind1("from a where (^some(from b))take 1;");
        kind1("from a where lacks ^some(from b)take 1;");
        kind1("from a where v0=1 ^in(from b take v1)take 1;");
        kind1("from a where (v0 ^in(from b take v1))take 1;");
        kind1("from a where v0 in(from b take v1)^=1 take 1;");
        kind1("from a where v0 in(from b take v1)^+1=1 take 1;");
        kind1("from a where lacks v0 ^in(from b take v1)take 1;");
        kind1("from a take run(^some(from b))over(along v0);");

        edge("section 3", "not within an inner question");
        kind1("from a where some(from b where ^some(from b))take 1;");
        kind1("from a where some(from b where not ^some(from b))take 1;");
        kind1("from a where some(from b where v1 ^in(from b take 1))take 1;");
        kind1("from a where v0 in(from b where ^some(from b)take 1)take 1;");
        kind1("from a where v0 in(from b take 1 ^in(from b take 1))take 1;");
        well("from a where some(from b)and some(from b)and v0 in(from b take 1)and some(from b)take 1;");

        edge("section 3", "inner = from table { , table } [ where test ]; in has a take, some has none");
        kind1("from a where some ^from b take 1;");
        kind1("from a where some(^b)take 1;");
        kind1("from a where some(from^)take 1;");
        kind1("from a where some(from b,^)take 1;");
        kind1("from a where some(from b ^take v1)take 1;");
        kind1("from a where some(from b ^by v1)take 1;");
        kind1("from a where some(from b where^)take 1;");
        kind1("from a where some(from b^;)take 1;");
        kind1("from a where v0 in(from b^)take 1;");
        kind1("from a where v0 in(from b where v1=1^)take 1;");
        kind1("from a where v0 in(from b take v1^,w1)take 1;");
        kind1("from a where v0 in(from b take^)take 1;");
        kind1("from a where v0 in(from b take ^rank over(along v0))take 1;");
        kind1("from a where v0 in ^b take 1;");
        kind1("from a where ^in(from b take 1)take 1;");
    }

    // ---- how many

    private static void limits() {
        edge("section 3", "At most 3 sources: the comma ahead of one more can't stand");
        well("from a,b,a take 1;");
        kind1("from a,b,a^,b take 1;");
        kind1("from a,b,a^,");
        edge("section 3", "of it and an inner one together; the first table behind an inner from can't stand, if it would be the 4th");
        well("from a where some(from a,b)take 1;");
        kind1("from a where some(from a,b^,a)take 1;");
        well("from a,b where some(from a)take 1;");
        kind1("from a,b where some(from a^,b)take 1;");
        kind1("from a,b,a where some(from ^a)take 1;");
        kind1("from a,b,a where v0 in(from ^a take 1)take 1;");
        kind1("from a,b where v0 in(from b^,a take 1)take 1;");
        well("from a where some(from a,b)and some(from b,a)and v0 in(from b,b take 1)take 1;");
        edge("section 3", "3 refs behind by");
        well("from b by v0,w0,x0 take 1;");
        kind1("from b by v0,w0,x0^,y0 take 1;");
        kind1("from b by v0,v0,v0^,v0 take 1;");
        edge("section 3", "5 items");
        well("from a take 1,v0,rank over(along v0),run(1)over(along v0),w0;");
        kind1("from a take 1,2,3,4,5^,6;");
        kind1("from a take 1,2,3,4,rank over(along v0)^,6;");
        kind1("from a take 1,2,3,4,5^,");
        edge("section 3", "3 refs in a span");
        well("from b take rank over(v0,w0,x0 along y0);");
        kind1("from b take rank over(v0,w0,x0^,y0 along z0);");
        well("from b take run(1)over(v0,v0,v0 along v0);");
        kind1("from b take run(1)over(v0,v0,v0^,v0 along v0);");
        kind1("from b take rank over(v0,w0,x0^,along y0);");
        kind1("from b take rank over(v0,w0,^along y0);");
        kind1("from b take rank over(v0,w0 along x0^,y0);");
        edge("section 3", "3 keys");
        well("from a take 1 order v0,down w0,down 3;");
        kind1("from a take 1 order v0,down w0,3^,4;");
        kind1("from a take 1 order 1,2,3^,down 4;");
        edge("section 3", "braces: any number of times");
        well("from a where 1=1" + "or 1=1".repeat(28) + "take 1;");
        well("from a where 1=1" + "and 1=1".repeat(24) + "take 1;");
        well("from a take 1" + "+1".repeat(93) + ";");
        well("from a take v0" + "/v0".repeat(61) + ";");
    }

    private static void openOnes() {
        edge("section 3", "Nor can the 11th of those that are open at one time");
        well("from a take " + "(".repeat(10) + "v0" + ")".repeat(10) + ";");
        kind1("from a take " + "(".repeat(10) + "^(v0" + ")".repeat(11) + ";");
        well("from a take " + "-".repeat(10) + "v0;");
        kind1("from a take " + "-".repeat(10) + "^-v0;");
        well("from a where " + "[".repeat(10) + "v0=1" + "]".repeat(10) + "take 1;");
        kind1("from a where " + "[".repeat(10) + "^[v0=1" + "]".repeat(11) + "take 1;");
        well("from a where " + "not ".repeat(10) + "v0=1 take 1;");
        kind1("from a where " + "not ".repeat(10) + "^not v0=1 take 1;");
        kind1("from a where " + "not ".repeat(10) + "^[v0=1]take 1;");
        kind1("from a where " + "not ".repeat(10) + "^(v0)=1 take 1;");
        kind1("from a where " + "not ".repeat(10) + "^-v0=1 take 1;");
        kind1("from a where " + "not ".repeat(10) + "v0=^-1 take 1;");
        kind1("from a where " + "not ".repeat(10) + "v0=^(1)take 1;");
        kind1("from a where " + "not ".repeat(10) + "lacks ^-v0 take 1;");
        kind1("from a where " + "not ".repeat(10) + "some^(from b)take 1;");
        kind1("from a where " + "not ".repeat(10) + "v0 in^(from b take 1)take 1;");
        well("from a where " + "not ".repeat(9) + "some(from b)take 1;");
        kind1("from a where " + "not ".repeat(9) + "some(from b where ^[v1=1])take 1;");
        kind1("from a where " + "not ".repeat(9) + "v0 in(from b take ^-v1)take 1;");
        well("from a where " + "not ".repeat(8) + "v0 in(from b take -v1)take 1;");
        well("from a take " + "(".repeat(9) + "total(v0)" + ")".repeat(9) + ";");
        kind1("from a take " + "(".repeat(10) + "total^(v0)" + ")".repeat(10) + ";");
        kind1("from a take " + "-".repeat(9) + "most(^-v0);");
        well("from a take run(" + "(".repeat(9) + "v0" + ")".repeat(9) + ")over(along v0);");
        kind1("from a take run(" + "(".repeat(9) + "^(v0" + ")".repeat(10) + ")over(along v0);");
        well("set a v=" + "-".repeat(10) + "v;");
        kind1("set a v=" + "-".repeat(10) + "^-v;");
        kind1("drop a where " + "[".repeat(10) + "v=^-1" + "]".repeat(10) + ";");
        well("from a take 1 order " + "(".repeat(10) + "1" + ")".repeat(10) + ";");
        kind1("from a take 1 order " + "(".repeat(10) + "^(1" + ")".repeat(11) + ";");

        edge("section 3", "round and square brackets up to their closing ones");
        String ten = "(".repeat(10) + "1" + ")".repeat(10);
        well("from a take " + ten + "+" + ten + "," + ten + " order " + ten + "," + ten + ";");
        well("from a where [v0=1]and " + ten + "=" + ten + " take 1;");
        well("from a where some(from b where v1=1)and " + ten + "=1 take 1;");
        well("from a where v0 in(from b take v1)and " + ten + "=1 take 1;");
        well("from a take total(v0)+" + ten + ";");
        well("from a take run(v0)over(along v0)," + ten + ";");
        well("from a take run(v0)over(w0 along v0),run(" + "(".repeat(9) + "1" + ")".repeat(9) + ")over(along v0);");

        edge("section 3", "not and the minus of a unit up to the end of what they belong to");
        well("from a where not v0=1 and " + ten + "=1 take 1;");
        kind1("from a where not v0=" + "(".repeat(9) + "^(1" + ")".repeat(10) + " take 1;");
        kind1("from a where not " + "[".repeat(9) + "^[v0=1" + "]".repeat(10) + " take 1;");
        well("from a where not not v0=1 or not[" + "(".repeat(8) + "1" + ")".repeat(8) + "=1]take 1;");
        well("from a take -v0+" + ten + ";");
        well("from a take -v0*" + ten + ";");
        kind1("from a take -" + "(".repeat(9) + "^(1" + ")".repeat(10) + ";");
        well("from a take -(-(-(-(-v0))))-" + ten + ";");
        well("put a -1,-2;");
    }

    private static void tooEarly() {
        edge("section 3", "or, if the text ends too early, its length");
        String change = "set a v=-(w+1)*2 where [not v<=1 or lacks w];";
        String question = "from a,b where v0 in(from b where v2<>1 take v2)by v0 with count<2 take v0,total(w0)order down v0 first 2;";
        String over = "from a take rank over(v0,w0 along w0),run(v0)over(along v0),'ab';";
        String put = "put a lack,-12;";
        for (String text : new String[] {"", " ", "   ", change, question, over, put}) {
            early(text);
        }
        edge("section 3", "the length, with the blanks at the end");
        told("from a   ^", 1);
        told("   ^", 1);
        told("^", 1);
        told("put a 1,2  ^", 1);
    }

    /** Each beginning of a text that ends behind a token of it ends too early; its last token can go on, though. */
    private static void early(String text) {
        for (int length = 0; length < text.length(); length++) {
            String begin = text.substring(0, length);
            boolean isCut = length > 0 && Character.isLetter(text.charAt(length - 1)) && Character.isLetter(text.charAt(length));
            boolean isRef = length > 0 && "vwxyz".indexOf(text.charAt(length - 1)) >= 0 && Character.isDigit(text.charAt(length));
            boolean isInWord = begin.chars().filter(sign -> sign == '\'').count() % 2 == 1;
            boolean isSign = begin.endsWith("<") && "=>".indexOf(text.charAt(length)) >= 0;
            if (!isCut && !isRef && !isInWord && !isSign) {
                told(begin + "^", 1);
            }
        }
    }

    // ---- kind 2

    private static void strangeTables() {
        edge("section 3", "kind 2: a table that there is not");
        kind2("from ^c take 1;");
        kind2("from ^d take v0;");
        kind2("from a,^c take v1;");
        kind2("from ^c,d take 1;");
        kind2("put ^c 1;");
        kind2("set ^d v=1;");
        kind2("drop ^c;");
        kind2("from a where some(from ^c)take 1;");
        kind2("from a where some(from b,^c)take 1;");
        kind2("from a where v0 in(from ^d take z1)take 1;");
        edge("section 3", "kind 2: a table that there is not");
        type("from a take 1;");
        due("2 at 5", "without tables", () -> fault());
        refused(ARGUMENT, "ask()", () -> x.ask());
        x.table(1);
        due("0 at -1", "the same text, now that there is one", () -> fault());
        due(0, "ask()", () -> x.ask());
    }

    private static void strangeRefs() {
        edge("section 3", "kind 2: a ref of a source that there is not");
        kind2("from a take ^v1;");
        kind2("from a,b take ^v2;");
        kind2("from a by ^v1 take 1;");
        kind2("from a where ^v1=1 take 1;");
        kind2("from a take 1 order ^w2;");
        kind2("from a by v0 with ^v1=1 take 1;");
        kind2("from a take rank over(^v1 along v0);");
        kind2("from a take rank over(v0,^v1 along v0);");
        kind2("from a take rank over(along ^v1);");
        kind2("from a take run(^v1)over(along v0);");
        kind2("from a take total(^v1);");
        edge("section 3", "kind 2: a ref of a column that its table has not");
        kind2("from a take ^x0;");
        kind2("from b,a take z0,^z1;");
        kind2("from a by ^x0 take 1;");
        kind2("from a where lacks ^y0 take 1;");
        kind2("from a where some(from a where ^x1=1)take 1;");
        kind2("from a where w0 in(from b take z1)and w0 in(from a take ^z1)take 1;");
        kind2("from a take rank over(along ^z0);");
        kind2("set a v=^x;");
        kind2("set a v=1 where ^z=1;");
        kind2("drop a where ^x=1;");
        well("set b v=z where x=y;");
        edge("section 3", "likewise the column of set");
        kind2("set a ^x=1;");
        kind2("set a ^z=x;");
        well("set a w=1;");
        well("set b z=1;");
    }

    private static void strangePuts() {
        edge("section 3", "in put a value too many (at the value), or the ; if there are too few");
        well("put a 1,2;");
        kind2("put a 1^;");
        kind2("put a 1 ^;");
        kind2("put a 1,2,^3;");
        kind2("put a 1,2,^-3;");
        kind2("put a 1,2, ^- 3;");
        kind2("put a 1,2,^lack;");
        kind2("put a 1,2,^'a',4,5,6,7;");
        well("put b 1,2,3,4,5;");
        kind2("put b 1,2,3,4^;");
        kind2("put b 1,2,3,4,5,^6;");
        kind2("put ^c 1,2,3,4,5,6;");
    }

    private static void strangeAggregates() {
        for (String word : new String[] {"count", "total(v0)", "least(v0)", "most(v0)"}) {
            String inChange = word.replace("v0", "v");
            edge("section 3", "kind 2: an AGGREGATE behind where");
            kind2("from a where ^" + word + "=1 take 1;");
            kind2("from a where v0=1 or lacks ^" + word + " take 1;");
            kind2("from a where ^" + word + "=1 by v0 take v0;");
            kind2("from a where some(from b where v1=^" + word + ")take 1;");
            kind2("from a where v0 in(from b take ^" + word + ")take 1;");
            kind2("from a where ^" + word + " in(from b take 1)take 1;");
            edge("section 3", "kind 2: an AGGREGATE within another one");
            kind2("from a take total(^" + word + ");");
            kind2("from a take least(1+^" + word + ")+count;");
            kind2("from a by v0 with most(^" + word + ")=1 take 1;");
            kind2("from a take 1 order total(^" + word + ");");
            edge("section 3", "kind 2: an AGGREGATE in an item with over");
            kind2("from a take ^run(" + word + ")over(along v0);");
            edge("section 3", "kind 2: an AGGREGATE in a change");
            kind2("set a v=^" + inChange + ";");
            kind2("set a v=1 where ^" + inChange + "=1;");
            kind2("drop a where ^" + inChange + "=1;");
            edge("section 3", "elsewhere an AGGREGATE can stand");
            well("from a take " + word + ";");
            well("from a by v0 with " + word + "=1 take v0 order " + word + ";");
            well("from a where v0=1 take -" + word + "," + word + "*" + word + ";");
        }
    }

    private static void strangeInGrouped() {
        edge("section 3", "in a GROUPED question rank or run (at its word)");
        kind2("from a by v0 take ^rank over(along v0);");
        kind2("from a by v0 take ^run(v0)over(along v0);");
        kind2("from a take count,^rank over(along v0);");
        edge("section 3", "also by an aggregate that stands behind it");
        kind2("from a take ^rank over(along v0),count;");
        kind2("from a take ^run(v0)over(along v0),1 order total(v0);");
        kind2("from a take ^v0,count;");
        kind2("from a take ^v0 order count;");
        kind2("from a take ^v0+count;");
        edge("section 3", "a ref that is neither within an aggregate nor told behind by (behind where refs are free)");
        well("from a where w0=1 and v0=2 by v0 take v0,total(w0),v0+1 order v0*count;");
        kind2("from a by v0 take ^w0;");
        kind2("from a by v0 take v0 order ^w0;");
        kind2("from a by v0 with ^w0=1 take v0;");
        kind2("from a by v0 take total(w0)+^w0;");
        kind2("from a by v0 take (v0+-^w0);");
        kind2("from a take ^w0,total(w0);");
        kind2("from a,a by v0 take ^v1;");
        well("from a,a by v1 take v1,total(v0);");
        well("from a where some(from b where z1=w0)by v0 take v0;");
        well("from b by v0,w0,x0 with v0=w0 take x0;");
        edge("section 3", "A question is GROUPED if it has by, or an aggregate anywhere behind take: also one that can't be there");
        kind2("from a take ^rank over(along v0),run(total(v0))over(along v0);");
        kind2("from a take ^v0,run(count)over(along v0);");
        kind2("from a take 1+^w0 order total(count);");
        kind2("from a take 1,^run(1)over(along v0),total(most(v0));");
        kind2("from a where v0=1 take ^run(-(1+least(v0)))over(v0 along v0);");
        edge("section 3", "anywhere behind take: one behind the take of an in is no such one, but behind where");
        kind2("from a where v0 in(from b take ^count)take v0,rank over(along v0);");
        kind2("from a where v0=^count take v0;");
        edge("section 3", "A question is GROUPED if it has by, or an aggregate anywhere behind take");
        x.table(2);
        ask("from a take v0;");
        ask("from a by v0 take 1;");
        ask("from a take count;");
        ask("from a take 1 order -(1+total(v0));");
        ask("from a where v0=1 take rank over(along v0) order v0;");
        due("0 1 1 1 0", "GROUPED", () -> x.questionAt(0, 4) + " " + x.questionAt(1, 4) + " " + x.questionAt(2, 4)
                + " " + x.questionAt(3, 4) + " " + x.questionAt(4, 4));
    }

    private static void firstFault() {
        edge("section 3", "Kind 2, if there is none of kind 1");
        kind1("from c take v2 ^v0;");
        kind1("put a 1,2,3,4 ^5;");
        told("put c 1,2^", 1);
        kind1("from a where count=1 take ^;");
        told("from a by v0 take w0^", 1);
        kind1("from a take rank over(along v0),count^!");
        edge("section 3", "the first of these, by its place");
        kind2("from ^c where count=1 take z2;");
        kind2("from a where ^count=1 take z2;");
        kind2("from a where ^x0=count take 1;");
        kind2("from a by v0 take ^w0,z2;");
        kind2("from a by v0 take ^z2,w0;");
        kind2("from a take ^w0,x0,count;");
        kind2("from a take total(^x0),w0;");
        kind2("from a take ^rank over(along x0),count;");
        kind2("from a take rank over(along ^x0),1;");
        kind2("set a ^x=count where z=1;");
        kind2("set a v=^count where z=1;");
        kind2("set ^c x=count where z=1;");
        kind2("from a take v0,^v1,v2,x0;");
        kind2("put a 1,2,^3,4,5;");
        edge("promise 4", "its kind is asked (0 without one), otherwise its place (NONE without one)");
        x.table(1);
        type("from a take v0;");
        due("0 -1", "no fault", () -> x.fault(true) + " " + x.fault(false));
        text("from a take v1;");
        due("2 12", "kind 2", () -> x.fault(true) + " " + x.fault(false));
        text("from a take v1");
        due("1 14", "kind 1", () -> x.fault(true) + " " + x.fault(false));
        refused("1", "fault(true)", () -> x.fault(true));
        refused("14", "fault(false)", () -> x.fault(false));
    }
}
