/** Boundary cases of indexes and kept questions: the sections 8 and 9 and the promises 37 to 45. */
public final class EdgeIndexes extends Edges {
    public static void main(String[] args) {
        making();
        makingRefused();
        entriesInOrder();
        pagesThatAreCut();
        levels();
        wherePut();
        swept();
        whatIsTold();
        pagesRefused();
        entriesRefused();
        seeking();
        keeping();
        keepingRefused();
        keptAnswers();
        lost();
        lookedAtBirthsAndDeaths();
        lookedAtInnerOnes();
        lookedAtManySources();
        keptRefused();
        finish();
    }

    // ---- indexes

    private static void making() {
        edge("section 8", "at most 6, numbered from 0, no two of one column");
        x.table(5);
        x.table(5);
        for (int i = 0; i < 5; i++) {
            int column = i;
            due(i, "its number", () -> x.index(0, column));
        }
        due(5, "the sixth one", () -> x.index(1, 4));
        due("0 4 1 4", "the last ones", () -> x.indexAt(4, 0) + " " + x.indexAt(4, 1) + " " + x.indexAt(5, 0) + " " + x.indexAt(5, 1));
        refused(STATE, "the seventh one", () -> x.index(1, 0));
        refused(STATE, "of a column that has one", () -> x.index(1, 4));
        refused(BOUNDS, "of no column", () -> x.index(1, 5));
        edge("section 8", "As an index is made its entries are put one after the other, by the places of their versions");
        x.table(2);
        change("put a 3,lack;");
        change("put a 1,lack;");
        change("put a lack,2;");
        change("put a 2,lack;");
        change("drop a where v=1;");
        x.index(0, 0);
        x.index(0, 1);
        due("1 3 0|2", "dead ones, too; those with a value", () -> entries(0) + "|" + entries(1));
    }

    private static void makingRefused() {
        edge("promise 37", "IndexOutOfBoundsException if there is no such table or column; IllegalStateException if the column has one, or there are 6");
        refused(BOUNDS, "no table at all", () -> x.index(0, 0));
        x.table(2);
        refused(BOUNDS, "column 2", () -> x.index(0, 2));
        refused(BOUNDS, "column -1", () -> x.index(0, -1));
        refused(BOUNDS, "column of the greatest int", () -> x.index(0, GREATEST_INT));
        refused(BOUNDS, "column of the least int", () -> x.index(0, LEAST_INT));
        refused(BOUNDS, "table 1", () -> x.index(1, 0));
        refused(BOUNDS, "table -1", () -> x.index(-1, 0));
        refused(BOUNDS, "table of the least int", () -> x.index(LEAST_INT, 0));
        due(0, "index", () -> x.index(0, 1));
        refused(STATE, "a second one", () -> x.index(0, 1));
        due(1, "of the other column", () -> x.index(0, 0));
        refused(STATE, "a second one", () -> x.index(0, 0));
    }

    private static void entriesInOrder() {
        edge("section 8", "an ENTRY for each version with a value in the column (dead ones, too), ordered by the values, of like ones by the places");
        x.table(1);
        x.index(0, 0);
        due("", "without versions", () -> entries(0));
        change("put a lack;");
        due("", "LACKING", () -> entries(0));
        for (String value : new String[] {"5", "-5", "5", "0", "-5", "lack", "5"}) {
            change("put a " + value + ";");
        }
        due("2 5 4 1 3 7", "by values, then by places", () -> entries(0));
        change("set a v=v/v where v=0;");
        due("2 5 4 1 3 7", "a version that is put LACKING", () -> entries(0));
        change("set a v=-v where v=5;");
        due("2 5 9 10 11 4 1 3 7", "the dying ones have theirs, those put theirs", () -> entries(0));
        change("drop a;");
        due("2 5 9 10 11 4 1 3 7", "all dead", () -> entries(0));
        due(0, "errors()", () -> x.errors());
        edge("section 8", "the least and the greatest long");
        x.table(1);
        x.index(0, 0);
        change("put a 0;");
        change("set a v=65536*65536*65536*32768;");
        change("set a v=v-1;");
        due("1 0 2", "as longs", () -> entries(0));
        due(0, "errors()", () -> x.errors());
    }

    private static void rising(int many) {
        x = new Columnworks();
        x.table(1);
        x.index(0, 0);
        for (int from = 0; from < many; from += 64) {
            x.fill(0, Math.min(64, many - from), from, 1, 1000, false);
        }
    }

    private static void falling(int many) {
        x = new Columnworks();
        x.table(1);
        x.index(0, 0);
        for (int from = 0; from < many; from += 64) {
            x.fill(0, Math.min(64, many - from), 500 - from, 999, 1000, false);
        }
    }

    private static void pagesThatAreCut() {
        edge("section 8", "an index without entries has one page of the level 0");
        x.table(1);
        x.index(0, 0);
        due("0", "the pages", () -> pages(0));
        change("put a lack;");
        due("0", "of LACKING ones", () -> pages(0));
        change("put a 1;");
        due("1", "one entry", () -> pages(0));
        edge("section 8", "a page that has 9 then is cut: its first 4 stay, the other 5 are a new page right behind it");
        rising(8);
        due("8", "eight", () -> pages(0));
        rising(9);
        due("4 5|2", "nine; a level with two pages gets a next one", () -> pages(0));
        rising(12);
        due("4 8|2", "twelve", () -> pages(0));
        rising(13);
        due("4 4 5|3", "thirteen", () -> pages(0));
        falling(9);
        due("4 5|2", "nine that fall", () -> pages(0));
        falling(10);
        due("5 5|2", "ten", () -> pages(0));
        falling(13);
        due("8 5|2", "thirteen", () -> pages(0));
        falling(14);
        due("4 5 5|3", "fourteen", () -> pages(0));
    }

    private static void levels() {
        edge("section 8", "in the same page of the next level, which is cut likewise if it has 9 pages then");
        rising(36);
        due("4 4 4 4 4 4 4 8|8", "eight pages", () -> pages(0));
        rising(37);
        due("4 4 4 4 4 4 4 4 5|4 5|2", "nine: the next level is cut, and gets a next one", () -> pages(0));
        rising(37);
        for (int i = 0; i < 5; i++) {
            change("put a 13;");
        }
        due("4 4 4 4 5 4 4 4 4 5|5 5|2", "the last page of the first one of the next level is cut", () -> pages(0));
        rising(37);
        for (int i = 0; i < 5; i++) {
            change("put a 17;");
        }
        due("4 4 4 4 4 5 4 4 4 5|4 6|2", "the first page of the second one of the next level is cut", () -> pages(0));
        for (int i = 0; i < 5; i++) {
            change("put a 1;");
        }
        due("4 5 4 4 4 4 5 4 4 4 5|5 6|2", "the first page of all is cut", () -> pages(0));
        due(0, "errors()", () -> x.errors());
        rising(52);
        due("4 4 4 4 4 4 4 4 4 4 4 8|4 8|2", "twelve", () -> pages(0));
        rising(53);
        due("4 4 4 4 4 4 4 4 4 4 4 4 5|4 4 5|3", "thirteen", () -> pages(0));
        rising(128);
        due("4 4 4 4 4 4 4 4 4 4 4 4 4 4 4 4 4 4 4 4 4 4 4 4 4 4 4 4 4 4 8|4 4 4 4 4 4 7|7", "128 entries", () -> pages(0));
        due(3, "its levels", () -> x.indexAt(0, 3));
        due(0, "errors()", () -> x.errors());
        falling(128);
        due("8 5 5 5 5 5 5 5 5 5 5 5 5 5 5 5 5 5 5 5 5 5 5 5 5|5 5 5 5 5|5", "128 that fall", () -> pages(0));
        due(0, "errors()", () -> x.errors());
    }

    private static void wherePut() {
        edge("section 8", "An entry is put into the last page whose first entry it stands behind (into the first page, if there is none)");
        x.table(1);
        x.index(0, 0);
        x.fill(0, 9, 10, 10, 1000, false);
        due("4 5|2", "10 to 40, and 50 to 90", () -> pages(0));
        change("put a 45;");
        due("5 5|2", "behind the last one of the first page", () -> pages(0));
        change("put a 50;");
        due("5 6|2", "behind the like first one of the second page", () -> pages(0));
        change("put a 49;");
        due("6 6|2", "ahead of it", () -> pages(0));
        change("put a 5;");
        due("7 6|2", "ahead of all", () -> pages(0));
        change("put a 999;");
        due("7 7|2", "behind all", () -> pages(0));
        change("put a 5;");
        change("put a 5;");
        due("4 5 7|3", "like the first one of all", () -> pages(0));
        due("12 14 15 0 1 2 3 9 11 4 10 5 6 7 8 13", "the entries", () -> entries(0));
        edge("section 8", "entries of like values, by the places");
        x.table(1);
        x.index(0, 0);
        x.fill(0, 13, 7, 0, 1000, false);
        due("4 4 5|3", "one behind the other", () -> pages(0));
        due("0 1 2 3 4 5 6 7 8 9 10 11 12", "the entries", () -> entries(0));
    }

    private static void swept() {
        edge("section 8", "as its table is swept, its entries are put one after the other, by the places of their versions");
        x.table(1);
        x.table(1);
        x.index(0, 0);
        x.index(1, 0);
        x.fill(0, 14, 500, 999, 1000, false);
        x.fill(1, 9, 0, 1, 1000, false);
        due("4 5 5|3", "put as they fall", () -> pages(0));
        change("drop a where v=500;");
        due("4 5 5|3", "a dead one stays", () -> pages(0));
        x.sweep(0);
        due("8 5|2", "thirteen that fall", () -> pages(0));
        due("12 11 10 9 8 7 6 5 4 3 2 1 0", "by the places that they have now", () -> entries(0));
        due("4 5|2", "the other table's", () -> pages(1));
        change("drop a;");
        x.sweep(0);
        due("0 ", "none is left", () -> pages(0) + " " + entries(0));
        refused(NONE_SUCH, "a level that is there no more", () -> x.page(0, 1, 0));
        refused(NONE_SUCH, "a page that is there no more", () -> x.page(0, 0, 1));
        refused(NONE_SUCH, "an entry that is there no more", () -> x.entry(0, 0));
        change("put a 1;");
        due("1 0", "and one again", () -> pages(0) + " " + entries(0));
    }

    private static void whatIsTold() {
        edge("promise 38", "0 its table, 1 its column, 2 its entries, 3 its levels");
        refused(BOUNDS, "no index at all", () -> x.indexAt(0, 0));
        x.table(1);
        x.table(3);
        x.index(1, 2);
        due("1 2 0 1", "an empty one", () -> x.indexAt(0, 0) + " " + x.indexAt(0, 1) + " " + x.indexAt(0, 2) + " " + x.indexAt(0, 3));
        x.fill(1, 9, 0, 1, 1000, false);
        due("9 2", "entries and levels", () -> x.indexAt(0, 2) + " " + x.indexAt(0, 3));
        refused(ARGUMENT, "what 4", () -> x.indexAt(0, 4));
        refused(ARGUMENT, "what -1", () -> x.indexAt(0, -1));
        refused(ARGUMENT, "what of the least int", () -> x.indexAt(0, LEAST_INT));
        refused(ARGUMENT, "what of the greatest int", () -> x.indexAt(0, GREATEST_INT));
        refused(BOUNDS, "index 1", () -> x.indexAt(1, 0));
        refused(BOUNDS, "index -1, what 4", () -> x.indexAt(-1, 4));
        refused(BOUNDS, "index 6", () -> x.indexAt(6, 0));
        refused(BOUNDS, "index of the greatest int", () -> x.indexAt(GREATEST_INT, 0));
    }

    private static void pagesRefused() {
        edge("promise 39", "NoSuchElementException if it has no such page");
        refused(BOUNDS, "no index at all", () -> x.page(0, 0, 0));
        x.table(1);
        x.index(0, 0);
        due(0, "the page of an empty one", () -> x.page(0, 0, 0));
        refused(NONE_SUCH, "page 1", () -> x.page(0, 0, 1));
        refused(NONE_SUCH, "level 1", () -> x.page(0, 1, 0));
        x.fill(0, 37, 0, 1, 1000, false);
        due("5 5 2", "the last pages", () -> x.page(0, 0, 8) + " " + x.page(0, 1, 1) + " " + x.page(0, 2, 0));
        refused(NONE_SUCH, "page 9 of the level 0", () -> x.page(0, 0, 9));
        refused(NONE_SUCH, "page 2 of the level 1", () -> x.page(0, 1, 2));
        refused(NONE_SUCH, "page 1 of the level 2", () -> x.page(0, 2, 1));
        refused(NONE_SUCH, "level 3", () -> x.page(0, 3, 0));
        refused(NONE_SUCH, "level -1", () -> x.page(0, -1, 0));
        refused(NONE_SUCH, "page -1", () -> x.page(0, 0, -1));
        refused(NONE_SUCH, "level of the greatest int", () -> x.page(0, GREATEST_INT, 0));
        refused(NONE_SUCH, "level of the least int", () -> x.page(0, LEAST_INT, 0));
        refused(NONE_SUCH, "page of the greatest int", () -> x.page(0, 0, GREATEST_INT));
        refused(NONE_SUCH, "page of the least int", () -> x.page(0, 2, LEAST_INT));
        refused(BOUNDS, "index 1", () -> x.page(1, 0, 0));
        refused(BOUNDS, "index -1, level -1", () -> x.page(-1, -1, -1));
    }

    private static void entriesRefused() {
        edge("promise 40", "NoSuchElementException if it has no such entry");
        refused(BOUNDS, "no index at all", () -> x.entry(0, 0));
        x.table(1);
        x.index(0, 0);
        refused(NONE_SUCH, "of an empty one", () -> x.entry(0, 0));
        change("put a lack;");
        refused(NONE_SUCH, "of LACKING alone", () -> x.entry(0, 0));
        change("put a 1;");
        due(1, "the only one", () -> x.entry(0, 0));
        refused(NONE_SUCH, "entry 1", () -> x.entry(0, 1));
        refused(NONE_SUCH, "entry -1", () -> x.entry(0, -1));
        refused(NONE_SUCH, "entry of the greatest int", () -> x.entry(0, GREATEST_INT));
        refused(NONE_SUCH, "entry of the least int", () -> x.entry(0, LEAST_INT));
        refused(BOUNDS, "index 1", () -> x.entry(1, 0));
        refused(BOUNDS, "index -1", () -> x.entry(-1, 0));
    }

    private static void seeking() {
        edge("promise 41", "how many entries have a value that is less than another one; any number");
        refused(BOUNDS, "no index at all", () -> x.seek(0, 0));
        x.table(1);
        x.index(0, 0);
        due("0 0 0", "of an empty one", () -> x.seek(0, Long.MIN_VALUE) + " " + x.seek(0, 0) + " " + x.seek(0, Long.MAX_VALUE));
        change("put a 5;");
        change("put a lack;");
        change("put a 5;");
        change("put a -1;");
        due("0 0 1 1 3", "-1, 5 and 5", () -> x.seek(0, -2) + " " + x.seek(0, -1) + " " + x.seek(0, 0) + " " + x.seek(0, 5) + " " + x.seek(0, 6));
        change("drop a;");
        due("0 3", "dead ones, too", () -> x.seek(0, Long.MIN_VALUE) + " " + x.seek(0, Long.MAX_VALUE));
        change("put a 0;");
        change("set a v=65536*65536*65536*32768;");
        change("set a v=v-1;");
        due("0 1 5 5", "the least and the greatest long", () -> x.seek(0, Long.MIN_VALUE) + " " + x.seek(0, Long.MIN_VALUE + 1) + " "
                + x.seek(0, Long.MAX_VALUE - 1) + " " + x.seek(0, Long.MAX_VALUE));
        refused(BOUNDS, "index 1", () -> x.seek(1, 0));
        refused(BOUNDS, "index -1", () -> x.seek(-1, 0));
        refused(BOUNDS, "index of the least int", () -> x.seek(LEAST_INT, 0));
    }

    // ---- kept questions

    private static void keeping() {
        edge("section 9", "KEPT ones are numbered from 0, at most 4 in all");
        x.table(1);
        ask("from a take v0;");
        ask("from a take count;");
        due("0 1 2 3", "the same question, and another one", () -> x.keep(0) + " " + x.keep(1) + " " + x.keep(1) + " " + x.keep(0));
        due("0 1 1 0", "their questions", () -> x.keptAt(0, 3) + " " + x.keptAt(1, 3) + " " + x.keptAt(2, 3) + " " + x.keptAt(3, 3));
        refused(STATE, "the fifth one", () -> x.keep(0));
        refused(BOUNDS, "the fifth one, of no question", () -> x.keep(2));
        edge("section 9", "at most 4 in all, also if one is LOST");
        x.table(1);
        x.fill(0, 22, 0, 1, 100, false);
        ask("from a,a take v0;");
        ask("from a take v0;");
        for (int i = 0; i < 4; i++) {
            x.keep(i / 2);
        }
        change("put a 1;");
        due("1 1 0 0", "two are LOST", () -> x.keptAt(0, 0) + " " + x.keptAt(1, 0) + " " + x.keptAt(2, 0) + " " + x.keptAt(3, 0));
        refused(STATE, "the fifth one", () -> x.keep(1));
    }

    private static void keepingRefused() {
        edge("promise 42", "IllegalStateException as for rows() as of the MOMENT, or if 4 were KEPT");
        refused(BOUNDS, "no question at all", () -> x.keep(0));
        x.table(1);
        x.table(1);
        x.fill(0, 23, 0, 1, 100, false);
        ask("from a,a take 1;");
        ask("from a where 1=2 and some(from a)take 1;");
        ask("from b where some(from a,a)take 1;");
        refused(STATE, "529 rows", () -> x.keep(0));
        refused(STATE, "529 with the inner one", () -> x.keep(1));
        due(0, "none with the inner one", () -> x.keep(2));
        change("drop a where v=0;");
        due("1 2", "484", () -> x.keep(0) + " " + x.keep(1));
        x.sweep(0);
        due(3, "the SINCE is not later than the MOMENT", () -> x.keep(0));
        refused(BOUNDS, "question 3", () -> x.keep(3));
        refused(BOUNDS, "question -1", () -> x.keep(-1));
        refused(BOUNDS, "question of the greatest int", () -> x.keep(GREATEST_INT));
    }

    private static void keptAnswers() {
        edge("section 9", "The kept answer is at any time that of the question as of the MOMENT");
        x.table(2);
        ask("from a take v0,w0 order down v0 first 2;");
        ask("from a take count,total(v0);");
        x.keep(0);
        x.keep(1);
        due("0 0 0 0|", "no rows", () -> keptAt(0) + "|" + keptRows(0, 2));
        due("0 1 0 1|0 ?", "one of none", () -> keptAt(1) + "|" + keptRows(1, 2));
        change("put a 1,lack;");
        due("1 ?|1 1", "one", () -> keptRows(0, 2) + "|" + keptRows(1, 2));
        x.fill(0, 3, 7, 1, 10, true);
        due("8 ?|7 7", "the first two", () -> keptRows(0, 2));
        due("4 16", "LACKING ones do not count", () -> keptRows(1, 2));
        change("drop a where v=8;");
        due("7 7|1 ?", "behind a drop", () -> keptRows(0, 2));
        x.sweep(0);
        due("7 7|1 ?", "behind a sweep", () -> keptRows(0, 2));
        change("set a v=v+1;");
        due("8 7|2 ?", "behind a set", () -> keptRows(0, 2));
        x.begin(false);
        write(0, "put a 9,9;");
        due("8 7|2 ?", "a writer's put is not seen", () -> keptRows(0, 2));
        x.finish(0, false);
        due("9 9|8 7", "behind its coming through", () -> keptRows(0, 2));
        due(0, "errors()", () -> x.errors());
    }

    private static void lost() {
        edge("section 9", "it is LOST for good (1; 0 before) if behind a change rows() would throw an exception for it");
        x.table(1);
        x.fill(0, 22, 0, 1, 100, false);
        ask("from a,a take count;");
        ask("from a where some(from a)take v0;");
        x.keep(0);
        x.keep(1);
        due("0 1 0 0|0 22 0 1", "484", () -> keptAt(0) + "|" + keptAt(1));
        change("put a 1;");
        due("1 0 0 0|1 0 0 1", "529: its LOOKED does not grow", () -> keptAt(0) + "|" + keptAt(1));
        change("drop a;");
        due("1 0 0 0|1 0 0 1", "for good", () -> keptAt(0) + "|" + keptAt(1));
        refused(NONE_SUCH, "its answer", () -> x.kept(0, 0, 0));
        refused(NONE_SUCH, "its answer", () -> x.keptLacks(0, 0, 0));
        due(2, "it can be kept anew", () -> x.keep(0));
        due("0 1 0 0", "anew", () -> keptAt(2));
        due(0, "errors()", () -> x.errors());
        edge("section 9", "500 is not LOST, and by a fill or a writer one is");
        x.table(1);
        x.table(1);
        x.fill(0, 20, 0, 1, 100, false);
        x.fill(1, 24, 0, 1, 100, false);
        ask("from a,b take count;");
        x.keep(0);
        change("put b 1;");
        due("0 1 20 0", "500", () -> keptAt(0));
        x.begin(false);
        write(0, "put a 1;");
        due("0 1 20 0", "525 in a view", () -> keptAt(0));
        x.finish(0, false);
        due("1 0 20 0", "525", () -> keptAt(0));
        x = new Columnworks();
        x.table(1);
        ask("from a,a take count;");
        x.keep(0);
        x.fill(0, 23, 0, 1, 100, false);
        due("1 0 0 0", "by a fill", () -> keptAt(0));
        edge("section 9", "behind a change alone: a sweep makes none LOST");
        x.table(1);
        x.fill(0, 5, 0, 1, 100, false);
        ask("from a take count;");
        x.keep(0);
        change("drop a where v=1;");
        x.sweep(0);
        due("0 1 1 0", "swept", () -> keptAt(0));
        change("drop a where v=99;");
        due("0 1 1 0", "and a change behind it", () -> keptAt(0));
    }

    private static void lookedAtBirthsAndDeaths() {
        edge("section 9", "the rows as of the moment ahead that have a version which died by it, and those as of the new MOMENT that have one which was born by it");
        x.table(1);
        x.table(1);
        ask("from a where v0<2 take v0 first 1;");
        x.keep(0);
        due(0L, "0 at first", () -> x.keptAt(0, 2));
        x.fill(0, 4, 0, 1, 100, false);
        due(4L, "four were born, without any test", () -> x.keptAt(0, 2));
        change("put a 9;");
        due(5L, "one was born", () -> x.keptAt(0, 2));
        change("drop a where v=9;");
        due(6L, "one died", () -> x.keptAt(0, 2));
        change("set a v=v+1 where v<3;");
        due(12L, "three died, three were born", () -> x.keptAt(0, 2));
        change("set a v=1 where v=99;");
        due(12L, "none", () -> x.keptAt(0, 2));
        change("put b 1;");
        due(12L, "another table", () -> x.keptAt(0, 2));
        change("drop b;");
        due(12L, "another table", () -> x.keptAt(0, 2));
        x.sweep(0);
        due(12L, "a sweep is no change", () -> x.keptAt(0, 2));
        x.begin(false);
        write(0, "drop a where v<3;");
        write(0, "put a 7;");
        write(0, "put a 8;");
        write(0, "drop a where v=8;");
        write(0, "put b 8;");
        due(12L, "a writer's view", () -> x.keptAt(0, 2));
        x.finish(0, false);
        due(15L, "two died, one was born", () -> x.keptAt(0, 2));
        x.begin(false);
        x.finish(1, false);
        due(15L, "a writer that did nothing", () -> x.keptAt(0, 2));
    }

    private static void lookedAtInnerOnes() {
        edge("section 9", "if it is of a table of an inner question, by the number of all rows (combinations, without any test) as of the new MOMENT");
        x.table(1);
        x.table(1);
        x.table(1);
        x.fill(0, 4, 0, 1, 100, false);
        ask("from a where some(from b where v1=v0)take v0;");
        ask("from a where v0<0 and v0 in(from a,b take v1)take count;");
        ask("from a take v0;");
        x.keep(0);
        x.keep(1);
        x.keep(2);
        change("put b 1;");
        due("4 4 0", "of b", () -> x.keptAt(0, 2) + " " + x.keptAt(1, 2) + " " + x.keptAt(2, 2));
        change("put a 1;");
        due("5 9 1", "of a, that is an inner one, too", () -> x.keptAt(0, 2) + " " + x.keptAt(1, 2) + " " + x.keptAt(2, 2));
        change("set b v=2;");
        due("10 14 1", "of b", () -> x.keptAt(0, 2) + " " + x.keptAt(1, 2) + " " + x.keptAt(2, 2));
        change("drop b where v=99;");
        due("10 14 1", "of no table: no version died or was born by it", () -> x.keptAt(0, 2) + " " + x.keptAt(1, 2) + " " + x.keptAt(2, 2));
        change("put c 1;");
        due("10 14 1", "of c", () -> x.keptAt(0, 2) + " " + x.keptAt(1, 2) + " " + x.keptAt(2, 2));
        change("drop a;");
        due("15 14 6", "five died; all rows are 0", () -> x.keptAt(0, 2) + " " + x.keptAt(1, 2) + " " + x.keptAt(2, 2));
        change("drop b;");
        due("15 14 6", "0 rows", () -> x.keptAt(0, 2) + " " + x.keptAt(1, 2) + " " + x.keptAt(2, 2));
        x.begin(false);
        write(0, "put a 1;");
        write(0, "put a 2;");
        write(0, "put b 1;");
        x.finish(0, false);
        due("17 16 8", "one change of both: all rows alone", () -> x.keptAt(0, 2) + " " + x.keptAt(1, 2) + " " + x.keptAt(2, 2));
    }

    private static void lookedAtManySources() {
        edge("section 9", "rows are combinations of the question's own sources here");
        x.table(1);
        x.table(1);
        x.fill(0, 4, 0, 1, 100, false);
        x.fill(1, 3, 0, 1, 100, false);
        ask("from a,b where v0=v1 take v0;");
        ask("from a,a take count;");
        x.keep(0);
        x.keep(1);
        change("put a 1;");
        due("3 9", "1 * 3, and 25 less 16", () -> x.keptAt(0, 2) + " " + x.keptAt(1, 2));
        change("drop a where v=1;");
        due("9 25", "2 * 3, and 25 less 9", () -> x.keptAt(0, 2) + " " + x.keptAt(1, 2));
        change("set a v=v where v=0;");
        due("15 35", "3 and 3, and 9 less 4 twice", () -> x.keptAt(0, 2) + " " + x.keptAt(1, 2));
        x.begin(false);
        write(0, "drop a where v=0;");
        write(0, "put b 7;");
        write(0, "put b 8;");
        x.finish(0, false);
        // ahead 3 * 3, then 2 * 5: a row with the dead one of a: 3; with one of the two of b: 4
        due("22 40", "of both tables by one change", () -> x.keptAt(0, 2) + " " + x.keptAt(1, 2));
    }

    private static void keptRefused() {
        edge("promise 43", "IllegalArgumentException if what is out of range");
        refused(BOUNDS, "none is kept", () -> x.keptAt(0, 0));
        x.table(1);
        ask("from a take v0;");
        x.keep(0);
        refused(ARGUMENT, "what 4", () -> x.keptAt(0, 4));
        refused(ARGUMENT, "what -1", () -> x.keptAt(0, -1));
        refused(ARGUMENT, "what of the least int", () -> x.keptAt(0, LEAST_INT));
        refused(ARGUMENT, "what of the greatest int", () -> x.keptAt(0, GREATEST_INT));
        refused(BOUNDS, "kept 1", () -> x.keptAt(1, 0));
        refused(BOUNDS, "kept -1, what 4", () -> x.keptAt(-1, 4));
        refused(BOUNDS, "kept 4", () -> x.keptAt(4, 0));
        for (boolean isValue : new boolean[] {false, true}) {
            edge(isValue ? "promise 45" : "promise 44", "IndexOutOfBoundsException if there is no such KEPT question or item; NoSuchElementException if it is LOST, or has no such row");
            refused(BOUNDS, "none is kept", () -> got(isValue, 0, 0, 0));
            x.table(2);
            change("put a 5,lack;");
            change("put a lack,6;");
            ask("from a,a,a where v0=5 and w1=6 and w2=6 take v0,w0,v1;");
            x.keep(0);
            due(isValue ? "5 0 0" : "false true true", "the row 0", () -> got(isValue, 0, 0, 0) + " " + got(isValue, 0, 0, 1) + " " + got(isValue, 0, 0, 2));
            refused(NONE_SUCH, "the row 1", () -> got(isValue, 0, 1, 0));
            refused(NONE_SUCH, "the row -1", () -> got(isValue, 0, -1, 0));
            refused(NONE_SUCH, "the row of the greatest int", () -> got(isValue, 0, GREATEST_INT, 2));
            refused(NONE_SUCH, "the row of the least int", () -> got(isValue, 0, LEAST_INT, 2));
            refused(BOUNDS, "the item 3", () -> got(isValue, 0, 0, 3));
            refused(BOUNDS, "the item -1, the row 1", () -> got(isValue, 0, 1, -1));
            refused(BOUNDS, "the item of the greatest int", () -> got(isValue, 0, -1, GREATEST_INT));
            refused(BOUNDS, "kept 1", () -> got(isValue, 1, 0, 0));
            refused(BOUNDS, "kept -1", () -> got(isValue, -1, 9, 9));
            x.fill(0, 6, 0, 1, 100, false);
            refused(NONE_SUCH, "LOST", () -> got(isValue, 0, 0, 0));
            refused(BOUNDS, "LOST, the item 3", () -> got(isValue, 0, 0, 3));
        }
    }

    private static Object got(boolean isValue, int kept, int row, int item) {
        return isValue ? (Object) x.kept(kept, row, item) : (Object) x.keptLacks(kept, row, item);
    }
}
