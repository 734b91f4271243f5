/** Tables that several tests lay. */
final class Texts {
    static final String HEAD = "table bowl 3 starve 9 flinch 0";
    static final String SHORT = HEAD + ";person a plain hunger 9 need 1;name n from 0 worth 1";
    /** Day by day: 9 6 5, cy names broth; 6 5 4, cy broth; 3 7 2, bo broth; 3 3 2, cy turnip; 4 4 3, cy turnip. */
    static final String FEAST = "table bowl 4 starve 30 flinch 50;person ann plain hunger 6 need 3;"
        + "person bo poet hunger 4 need 2;person cy child hunger 3 need 2;name turnip from 0 worth 1;"
        + "name broth from 8 worth 3;name duck from 12 worth 5;fast bo day 2;unsure cy 7;heard broth day 1;heard broth day 3";
    /** x eats the one portion, and is DEAD with 7 behind the first day. */
    static final String DOOMED = "table bowl 1 starve 5 flinch 100;person x plain hunger 4 need 3;name n from 0 worth 0";
    static final String LONELY_POET = "table bowl 9 starve 50 flinch 0;person a poet hunger 0 need 1;"
        + "name n from 0 worth 9;name m from 5 worth 1";
    static final String UNSURE = "table bowl 5 starve 100 flinch 0;person a plain hunger 5 need 1;"
        + "person b plain hunger 5 need 1;name low from 0 worth 1;name mid from 11 worth 1;name top from 21 worth 1";
    /** Nobody is fed: a is DEAD behind day 59, b, who has one less, behind day 60; n is named first on day 59. */
    static final String LATE = table("bowl 1 starve 59 flinch 0", "plain 1 1", "plain 0 1") + names(0, 0, 60, 0);
    /** a eats the one portion each day, and has no hunger left. */
    static final String FED = table("bowl 1 starve 9 flinch 0", "plain 0 1") + names(0, 1);
    /** Numbers that are out of every bound of the document. */
    static final int[] WILD = {-1, -2, Integer.MIN_VALUE, Integer.MAX_VALUE, 1 << 17, -65536, 65537};

    private Texts() {
    }

    /** People a, b, .. of one kind each, told as "kind hunger need". */
    static String table(String table, String... people) {
        StringBuilder text = new StringBuilder("table ").append(table);
        for (int p = 0; p < people.length; p++) {
            String[] parts = people[p].split(" ");
            text.append(";person ").append((char) ('a' + p)).append(' ').append(parts[0]);
            text.append(" hunger ").append(parts[1]).append(" need ").append(parts[2]);
        }
        return text.toString();
    }

    /** Names m, n, .. told as from and worth by turns. */
    static String names(int... fromsAndWorths) {
        StringBuilder text = new StringBuilder();
        for (int i = 0; i + 1 < fromsAndWorths.length; i += 2) {
            text.append(";name ").append((char) ('m' + i / 2)).append(" from ").append(fromsAndWorths[i]);
            text.append(" worth ").append(fromsAndWorths[i + 1]);
        }
        return text.toString();
    }
}
