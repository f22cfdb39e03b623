/** Each sentence that names a boundary, of promises 7 to 16: how it is, HOURS and other ACTS, and how they are undone. */
public final class BoundariesOfHours extends Bench {
    private static final String[] NOUNS = {"person", "mill", "roof"};

    public static void main(String[] args) {
        lookedAt();
        wind();
        since();
        hourLast();
        urgeMost();
        steady();
        sums();
        clauses();
        facts();
        arithmetic();
        round();
        words();
        puffs();
        puffsOut();
        mills();
        millsMost();
        roofs();
        catches();
        wine();
        place();
        face();
        mend();
        undo();
        undoFull();
        undoRound();
        finish();
    }

    // ---- promises 7 to 10

    private static int look(WhimWind x, int noun, int which, int what) {
        return noun == 0 ? x.person(which, what) : noun == 1 ? x.mill(which, what) : x.roof(which, what);
    }

    /** Of things 0 to last, with so many whats; last is NONE if there are none. */
    private static void things(WhimWind x, int noun, int last, int whats) {
        promise = 7 + noun;
        String name = NOUNS[noun] + " ";
        for (int what = 0; what < whats; what++) {
            for (int is = 0; is <= last; is++) {
                due(name + is + ", " + what + " is there", Math.min(0, look(x, noun, is, what)), 0);
            }
            for (int none : new int[] {last + 1, last + 2, -1, LEAST, MOST}) {
                due(name + none + ", " + what, look(x, noun, none, what), -1);
            }
        }
        for (int none : new int[] {whats, whats + 1, -1, LEAST, MOST}) {
            due(name + "0, what " + none, look(x, noun, 0, none), -1);
        }
    }

    private static void lookedAt() {
        String[] texts = {FULL, "plateau 2 1;person 0 0 0;mill 0 1;roof 0 0", "plateau 2 1"};
        int[][] last = {{5, 3, 3}, {0, 0, 0}, {-1, -1, -1}};
        for (int i = 0; i < texts.length; i++) {
            WhimWind x = on(texts[i]);
            things(x, 0, last[i][0], 6);
            things(x, 1, last[i][1], 3);
            things(x, 2, last[i][2], 3);
        }
    }

    private static void wind() {
        promise = 10;
        for (int side = 2; side <= 6; side++) {
            WhimWind x = by("plateau " + side + " 9;person 1 0 3;person " + (side * side - 2) + " 0 1", "whim hour");
            due("in the first cell, ahead of all hours", x.wind(0), 0);
            hours(x, 2);
            due("in the first cell", x.wind(0), 2);
            due("in the last cell", x.wind(side * side - 1), 2);
            for (int none : new int[] {side * side, side * side + 1, -1, LEAST, MOST}) {
                due("in cell " + none, x.wind(none), -1);
            }
        }
    }

    private static void since() {
        promise = 7;
        WhimWind x = by("plateau 2 9;person 0 0 1;person 0 0 1", "whim 1 if hour = 0 and person = 0");
        due("never", x.person(0, 5), 99);
        x.hour();
        for (int n = 1; n <= 101; n++) {
            due("hours since, 99 at most", x.person(0, 5), Math.min(99, n));
            due("never yet", x.person(1, 5), 99);
            x.hour();
        }
        due("how often", x.person(0, 4), 1);
        due("not once", x.person(1, 4), 0);
    }

    // ---- promise 11

    private static WhimWind lastHour() {
        WhimWind x = by("plateau 2 1;person 0 0 1;roof 3 0", "whim 1 if hour % 100 = 98");
        hours(x, 999);
        return x;
    }

    /** An object's 512th call is long past here, so nobody can ask for this; the words hold all the same. */
    private static void hourLast() {
        promise = 11;
        WhimWind x = lastHour();
        due("hour 999", x.count(7), 999);
        due("the last hour went", x.person(0, 5), 1);
        x.undo();
        due("hour 998", x.count(7), 998);
        due("the last hour that goes", x.hour(), 1);
        due("hour 999", x.count(7), 999);
        leaves(BoundariesOfHours::lastHour, "at hour 999", -1, y -> y.hour());
        due("asked for hours go on beyond it", x.whim(0), 1098);
        due("a hundred of them", x.storm(1), 1098);
        due("no plateau", new WhimWind().hour(), -1);
    }

    private static void urgeMost() {
        promise = 11;
        WhimWind x = by("plateau 2 9;person 0 0 1", "whim 0");
        for (int n = 1; n <= 101; n++) {
            due("nobody", x.hour(), 0);
            due("1 more, 99 at most", x.person(0, 3), Math.min(99, n));
        }
        WhimWind y = by("plateau 2 1;person 0 0 1;person 1 0 1;person 1 0 1", "whim 1 if person = 0");
        wines(y, 0, 49);
        wines(y, 1, 48);
        wines(y, 2, 49);
        y.hour();
        due("wind", y.wind(1), 50);
        due("98 and 1 more", y.person(1, 3), 99);
        due("100 would be too much", y.person(2, 3), 99);
        due("the wind's own urge", y.person(0, 3), 0);
    }

    /** Whether one with this STEADY and this URGE, ahead of the HOUR, gives way without a RULE. */
    private static int givesWay(int steady, int urge) {
        WhimWind x = on("plateau 2 9;person 0 " + steady + " 1");
        wines(x, 0, urge);
        return x.hour();
    }

    private static void steady() {
        promise = 11;
        due("0, urge 1", givesWay(0, 0), 1);
        due("1, urge 1", givesWay(1, 0), 0);
        due("1, urge 2", givesWay(1, 1), 1);
        due("19, urge 20", givesWay(19, 19), 1);
        due("20, urge 20", givesWay(20, 19), 0);
        due("20, urge 21", givesWay(20, 20), 1);
    }

    private static void gives(String rule, boolean is) {
        due(rule, by("plateau 3 2;person 5 7 3", rule).hour(), is ? 1 : 0);
    }

    private static void sums() {
        promise = 11;
        gives("whim 0", false);
        gives("whim 1", true);
        gives("whim 0-1", false);
        gives("whim 99999", true);
        gives("whim 1-99999", false);
        gives("whim 99999*99999", true);
        gives("whim 0-99999*99999", false);
        gives("whim 1 if 99999*99999 = 99998*99999+99999", true);
        // 4294967296 is 0 in 32 bits.
        gives("whim 65536*65536", true);
        gives("whim 1 if 65536*65536 = 0", false);
        gives("whim 1 if 65536*32768 > 0", true);
        gives("whim 1 if 1 < 2", true);
        gives("whim 1 if 1 < 1", false);
        gives("whim 1 if 2 <= 2", true);
        gives("whim 1 if 2 <= 1", false);
        gives("whim 1 if 2 = 2", true);
        gives("whim 1 if 2 = 3", false);
        gives("whim 1 if 2 = 1", false);
        gives("whim 1 if 2 >= 2", true);
        gives("whim 1 if 2 >= 3", false);
        gives("whim 1 if 2 > 1", true);
        gives("whim 1 if 2 > 2", false);
    }

    /** The first CLAUSE without a TEST, or whose TEST holds; 0 without. */
    private static void clauses() {
        promise = 11;
        gives("whim 1 if 1=2", false);
        gives("whim 1 if 1=2" + many(";whim 1 if 1=2", 11), false);
        gives("whim 0 if 1=2" + many(";whim 0 if 1=2", 10) + ";whim 1", true);
        gives("whim 0 if 1=2" + many(";whim 0 if 1=2", 10) + ";whim 1 if 1=1", true);
        gives("whim 0;whim 1", false);
        gives("whim 0 if 1=1;whim 1", false);
        gives("whim 1;whim 0", true);
        gives("whim 1 if " + many("not ", 10) + "1=1", true);
        gives("whim 1 if " + many("not ", 9) + "1=1", false);
        gives("whim 1 if " + many("[", 10) + "1=1" + many("]", 10), true);
        gives("whim 1 if 1=2" + many(" or 1=2", 18), false);
        gives("whim 1 if 1=2" + many(" or 1=2", 17) + " or 1=1", true);
        gives("whim 1 if 1=1" + many(" and 1=1", 18), true);
        gives("whim 1 if 1=1" + many(" and 1=1", 17) + " and 1=2", false);
        gives("whim 1" + many("+1", 58) + "-59", false);
        gives("whim 1" + many("+1", 58) + "-58", true);
    }

    /** Each SIGN within not, and, or and brackets: not is of the FACT, and of PARTS ahead of or. */
    private static void facts() {
        promise = 11;
        String[] so = {"1 < 2", "2 <= 2", "5 = 5", "7 >= 7", "9 > 3"};
        String[] notSo = {"2 < 2", "3 <= 2", "5 = 6", "6 >= 7", "3 > 3"};
        for (int i = 0; i < 5; i++) {
            gives("whim 1 if not " + so[i], false);
            gives("whim 1 if not " + notSo[i], true);
            gives("whim 1 if not [" + so[i] + "]", false);
            gives("whim 1 if not not " + so[i], true);
            for (int j = 0; j < 5; j++) {
                gives("whim 1 if " + so[i] + " and " + so[j], true);
                gives("whim 1 if " + so[i] + " and " + notSo[j], false);
                gives("whim 1 if " + notSo[i] + " and " + so[j], false);
                gives("whim 1 if " + notSo[i] + " or " + notSo[j], false);
                gives("whim 1 if " + so[i] + " or " + notSo[j], true);
                gives("whim 1 if " + notSo[i] + " or " + so[j], true);
                gives("whim 1 if not " + notSo[i] + " and " + so[j], true);
                gives("whim 1 if not " + so[i] + " or " + so[j], true);
                gives("whim 1 if not [" + so[i] + " or " + so[j] + "]", false);
                gives("whim 1 if not [" + so[i] + " and " + notSo[j] + "]", true);
                gives("whim 1 if " + so[i] + " or " + so[j] + " and " + notSo[i], true);
                gives("whim 1 if [" + so[i] + " or " + so[j] + "] and " + notSo[i], false);
                gives("whim 1 if " + notSo[i] + " and " + so[j] + " or " + so[i], true);
                gives("whim 1 if " + notSo[i] + " and [" + so[j] + " or " + so[i] + "]", false);
            }
        }
    }

    private static void arithmetic() {
        promise = 11;
        gives("whim 1 if 5/0 = 0 and 5%0 = 0", true);
        gives("whim 1 if 0/0 = 0 and 0%0 = 0", true);
        gives("whim 1 if 7/7 = 1 and 6/7 = 0 and 13/7 = 1 and 14/7 = 2", true);
        gives("whim 1 if 7%7 = 0 and 6%7 = 6 and 13%7 = 6", true);
        gives("whim 1 if 5/0*3+1 = 1 and 1+5%0 = 1", true);
        gives("whim 1 if 9/hour = 0 and 9%hour = 0", true);
        gives("whim 1 if 9-4-3 = 2 and 48/4/3 = 4 and 48%7*2 = 12 and 2*7%4 = 2", true);
        gives("whim 1 if 2+3*4 = 14 and 3*4+2 = 14 and 20-6/2 = 17", true);
    }

    /** All goes round in 64 bits; 32768 * 32768 * 32768 * 32768 * 8 is the least. */
    private static void round() {
        promise = 11;
        String least = "32768*32768*32768*32768*8";
        gives("whim " + least, false);
        gives("whim 1 if " + least + " < 0", true);
        gives("whim 0-" + least, false);
        gives("whim 1 if 0-" + least + " = " + least, true);
        gives("whim " + least + "-1", true);
        gives("whim 1 if " + least + "*2 = 0", true);
        gives("whim 1 if " + least + "+" + least + " = 0", true);
        // 9223372036854775807 * 2 is -2.
        gives("whim 1 if " + least + "-1+" + least + "-1 = 0-2", true);
        // The least is -9223372036854775808: by 3 it is -3074457345618258602, rest -2.
        gives("whim 1 if " + least + "%3 = 0-2", true);
        gives("whim 1 if " + least + "%3 + 2 = 0", true);
        gives("whim 1 if " + least + "/4096/32768/32768/32768 + 8*8 = 0", true);
        // Towards 0, not down: by 10 ^ 15 it is -9223 and a rest.
        gives("whim 1 if " + least + "/10000/10000/10000/1000 = 0-9223", true);
        gives("whim 1 if " + least + "/10000/10000/10000/1000 = 0-9224", false);
        gives("whim 1 if " + least + "/1 = " + least + " and " + least + "%1 = 0", true);
        gives("whim 1 if " + least + "/0 = 0 and " + least + "%0 = 0", true);
    }

    private static void words() {
        promise = 11;
        gives("whim 1 if hour = 0 and since = 99 and acted = 0 and wind = 0 and ground = 0 and off = 0", true);
        WhimWind x = by("plateau 2 9;person 0 0 1;mill 1 20", "whim 1 if hour = 0;whim since - 98");
        x.hour();
        for (int n = 1; n < 99; n++) {
            due("since " + n, x.hour(), 0);
        }
        due("since 99", x.hour(), 1);
        WhimWind y = by("plateau 6 9" + many(";person 35 0 0", 6), "whim 1 if person = 5 and row = 5 and column = 5");
        due("the last of all", y.hour(), 32);
    }

    private static void windIs(WhimWind x, String what, int... winds) {
        for (int cell = 0; cell < winds.length; cell++) {
            due(what + ", in cell " + cell, x.wind(cell), winds[cell]);
        }
    }

    private static WhimWind puffOf(int cell, int way, int urge) {
        WhimWind x = by("plateau 3 9;person " + cell + " 0 " + way, "whim 1");
        wines(x, 0, urge - 1);
        due("a puff", x.hour(), 1);
        return x;
    }

    private static void puffs() {
        promise = 11;
        windIs(puffOf(3, 1, 1), "till it is 0", 0, 0, 0, 0, 1, 0, 0, 0, 0);
        windIs(puffOf(3, 1, 2), "1 less", 0, 0, 0, 0, 2, 1, 0, 0, 0);
        windIs(puffOf(3, 1, 3), "till the plateau ends", 0, 0, 0, 0, 3, 2, 0, 0, 0);
        windIs(puffOf(3, 1, 99), "the most", 0, 0, 0, 0, 99, 98, 0, 0, 0);
        windIs(puffOf(5, 3, 9), "to the cells ahead", 0, 0, 0, 9 - 1, 9, 0, 0, 0, 0);
        windIs(puffOf(7, 0, 9), "to the rows ahead", 0, 8, 0, 0, 9, 0, 0, 0, 0);
        windIs(puffOf(1, 2, 9), "to the rows behind", 0, 0, 0, 0, 9, 0, 0, 8, 0);
        WhimWind x = by("plateau 6 9;person 0 0 1;person 35 0 3;person 5 0 2;person 30 0 0", "whim 1");
        for (int p = 0; p < 4; p++) {
            wines(x, p, 4);
        }
        x.hour();
        for (int i = 0; i < 5; i++) {
            int much = 5 - i;
            due("row 0", x.wind(1 + i), much);
            due("row 5", x.wind(34 - i), much);
            due("column 5", x.wind(11 + 6 * i), much);
            due("column 0", x.wind(24 - 6 * i), much);
        }
        WhimWind y = by("plateau 2 9" + many(";person 0 0 1", 6), "whim 1");
        for (int p = 0; p < 6; p++) {
            wines(y, p, 99);
        }
        y.hour();
        windIs(y, "all that there can be", 0, 594, 0, 0);
        due("together", y.count(10), 594);
    }

    /** Who stands at an edge and FACES out of it gives way, and there is no WIND. */
    private static void puffsOut() {
        promise = 11;
        int[][] out = {{0, 1, 2}, {2, 5, 8}, {6, 7, 8}, {0, 3, 6}};
        for (int way = 0; way < 4; way++) {
            for (int cell : out[way]) {
                WhimWind x = puffOf(cell, way, 99);
                due("no wind from " + cell, x.count(10), 0);
                due("urge", x.person(0, 3), 0);
                due("given way", x.person(0, 4), 1);
                windIs(x, "from " + cell, 0, 0, 0, 0, 0, 0, 0, 0, 0);
            }
        }
    }

    private static int ground(int can, int wind) {
        WhimWind x = by("plateau 2 9;person 0 0 1;mill 1 " + can, "whim 1");
        wines(x, 0, wind - 1);
        x.hour();
        return x.mill(0, 2);
    }

    private static void mills() {
        promise = 11;
        due("can 1, wind 1", ground(1, 1), 1);
        due("can 1, wind 2", ground(1, 2), 1);
        due("can 20, wind 19", ground(20, 19), 19);
        due("can 20, wind 20", ground(20, 20), 20);
        due("can 20, wind 21", ground(20, 21), 20);
        due("can 20, wind 99", ground(20, 99), 20);
        WhimWind x = by("plateau 2 9;person 0 0 1;mill 3 20;mill 1 20;mill 0 20;mill 1 1", "whim 1");
        wines(x, 0, 9);
        x.hour();
        due("no wind", x.mill(0, 2), 0);
        due("wind", x.mill(1, 2), 10);
        due("no wind where they stand", x.mill(2, 2), 0);
        due("the last mill", x.mill(3, 2), 1);
        due("in all", x.count(8), 11);
    }

    private static void millsMost() {
        promise = 11;
        WhimWind x = by("plateau 2 1;person 0 0 1;person 1 0 3;mill 0 20;mill 1 19", "whim urge - 9");
        wines(x, 0, 99);
        wines(x, 1, 99);
        hours(x, 450);
        due("450 hours", x.mill(0, 2), 9000);
        due("499 hours", x.ahead(0, 49, 1), 9980);
        due("9999 at most", x.ahead(0, 50, 1), 9999);
        due("and so it stays", x.ahead(0, 51, 1), 9999);
        due("in 100 more", x.ahead(0, 100, 1), 9999);
        due("another mill goes on", x.ahead(1, 50, 1), 9500);
        due("both", x.stand(0, 1, 2), 9000 + 450 * 19 + 39);
        due("9999 of it", x.takes(0, 0, 9999, 50), 0);
        due("not an hour ahead", x.takes(0, 0, 9999, 49), -2);
    }

    private static int off(int holds, int wind) {
        WhimWind x = by("plateau 2 9;person 0 0 1;roof 1 " + holds, wind == 0 ? "whim 0" : "whim 1");
        wines(x, 0, wind - 1);
        x.hour();
        due("as bits", x.count(9), x.roof(0, 2));
        return x.roof(0, 2);
    }

    private static void roofs() {
        promise = 11;
        due("holds 0, no wind", off(0, 0), 0);
        due("holds 0, wind 1", off(0, 1), 1);
        due("holds 1, wind 1", off(1, 1), 0);
        due("holds 1, wind 2", off(1, 2), 1);
        due("holds 40, wind 39", off(40, 39), 0);
        due("holds 40, wind 40", off(40, 40), 0);
        due("holds 40, wind 41", off(40, 41), 1);
        WhimWind x = by("plateau 2 9;person 0 0 1" + many(";roof 1 0", 4), "whim 1 if hour = 0");
        x.hour();
        due("all four", x.count(9), 15);
        x.hour();
        due("off they stay", x.count(9), 15);
    }

    /** What one whose URGE was 0 has, in so much WIND by so much CATCH. */
    private static int caught(int catches, int wind) {
        WhimWind x = by("plateau 2 " + catches + ";person 0 0 1;person 1 0 1", "whim 1 if person = 0");
        wines(x, 0, wind - 1);
        x.hour();
        return x.person(1, 3) - 1;
    }

    private static void catches() {
        promise = 11;
        due("1 by 1", caught(1, 1), 1);
        due("97 by 1", caught(1, 97), 97);
        due("98 by 1", caught(1, 98), 98);
        due("99 by 1, 99 at most", caught(1, 99), 98);
        due("8 by 9", caught(9, 8), 0);
        due("9 by 9", caught(9, 9), 1);
        due("17 by 9", caught(9, 17), 1);
        due("18 by 9", caught(9, 18), 2);
        due("99 by 9", caught(9, 99), 11);
        due("1 by 2", caught(2, 1), 0);
        due("3 by 2", caught(2, 3), 1);
    }

    // ---- promises 12 to 15

    private static void wine() {
        promise = 12;
        for (int none : new int[] {3, -1, LEAST, MOST}) {
            leaves("person " + none, -1, x -> x.wine(none, 1));
        }
        for (int none : new int[] {0, 10, -1, LEAST, MOST}) {
            leaves("much " + none, -1, x -> x.wine(0, none));
        }
        WhimWind x = on(FULL);
        for (int p = 0; p < 6; p++) {
            due("the least of " + p, x.wine(p, 1), 1);
            due("the most of " + p, x.wine(p, 9), 10);
        }
        due("no seventh", x.wine(6, 1), -1);
        wines(x, 5, 80);
        due("90", x.person(5, 3), 90);
        due("just 99", x.wine(5, 9), 99);
        due("99 at most", x.wine(5, 1), 99);
        due("99 at most", x.wine(5, 9), 99);
        wines(x, 4, 81);
        due("91 and 9", x.wine(4, 9), 99);
        due("nobody of nobody", on("plateau 2 1").wine(0, 1), -1);
    }

    private static void place() {
        promise = 13;
        for (int none : new int[] {3, -1, LEAST, MOST}) {
            leaves("person " + none, -1, x -> x.place(none, 0));
        }
        for (int none : new int[] {9, -1, LEAST, MOST}) {
            leaves("cell " + none, -1, x -> x.place(0, none));
        }
        leaves("where they are", -1, x -> x.place(0, 3));
        leaves("where they have been put", -1, x -> x.place(2, 6));
        WhimWind x = on(FULL);
        due("where they are, the last", x.place(5, 35), -1);
        due("the first cell", x.place(5, 0), 35);
        due("the last cell", x.place(5, 35), 0);
        due("no seventh", x.place(6, 0), -1);
        due("behind the last cell", x.place(0, 36), -1);
        due("two acts", x.count(13), 2);
        due("nobody of nobody", on("plateau 2 1").place(0, 1), -1);
    }

    private static void face() {
        promise = 14;
        for (int none : new int[] {3, -1, LEAST, MOST}) {
            leaves("person " + none, -1, x -> x.face(none, 0));
        }
        for (int none : new int[] {4, -1, LEAST, MOST}) {
            leaves("way " + none, -1, x -> x.face(0, none));
        }
        leaves("as they do", -1, x -> x.face(0, 1));
        leaves("as they have been told", -1, x -> x.face(1, 2));
        WhimWind x = on(FULL);
        due("as they do, the last", x.face(5, 3), -1);
        for (int way = 0; way < 4; way++) {
            due("to " + way, x.face(5, way), way == 0 ? 3 : way - 1);
            due("so", x.person(5, 2), way);
        }
        due("no seventh", x.face(6, 0), -1);
        due("four acts", x.count(13), 4);
        due("nobody of nobody", on("plateau 2 1").face(0, 1), -1);
    }

    private static void mend() {
        promise = 15;
        for (int none : new int[] {1, 2, -1, LEAST, MOST}) {
            leaves("roof " + none, -1, x -> x.mend(none));
        }
        WhimWind x = by("plateau 2 9;person 0 0 1" + many(";roof 1 0", 4), "whim 1");
        due("none is off", x.mend(3), -1);
        x.hour();
        for (int r = 3; r >= 0; r--) {
            due("how many are off then", x.mend(r), r);
            due("not any more", x.roof(r, 2), 0);
            due("it is none that is off", x.mend(r), -1);
        }
        due("none as bits", x.count(9), 0);
        due("five acts", x.count(13), 5);
        due("no fifth", x.mend(4), -1);
        x.hour();
        due("off again", x.count(9), 15);
        due("no roof of none", on("plateau 2 1").mend(0), -1);
    }

    // ---- promise 16

    private static WhimWind undone() {
        WhimWind x = busy();
        for (int i = 0; i < 6; i++) {
            x.undo();
        }
        return x;
    }

    private static WhimWind urged() {
        WhimWind x = on("plateau 2 9;person 0 0 1");
        wines(x, 0, 99);
        return x;
    }

    /** An ACT that is UNDONE leaves all as it was. */
    private static void undoes(String what, int answer, Call act) {
        leaves(what + " that is undone", 6, x -> {
            due(what, act.on(x), answer);
            due("acts", x.count(13), 7);
            return x.undo();
        });
    }

    private static void undo() {
        promise = 16;
        leaves(BoundariesOfHours::undone, "none can any more", -2, x -> x.undo());
        leaves(() -> on(FULL), "none can as yet", -2, x -> x.undo());
        undoes("wine", 12, x -> x.wine(0, 9));
        undoes("place", 3, x -> x.place(0, 8));
        undoes("face", 1, x -> x.face(0, 0));
        undoes("mend", 0, x -> x.mend(0));
        undoes("an hour", 3, x -> x.hour());
        leaves(BoundariesOfHours::urged, "wine of which nothing came", 11, x -> {
            due("wine at 99", x.wine(0, 9), 99);
            due("is an act", x.count(13), 12);
            return x.undo();
        });
        int[] first = {3, 2, 3, 2, 2, 2, 0, 0, 0, 0, 0, 0, 2, 0, 9, 33};
        WhimWind x = undone();
        for (int what = 0; what < first.length; what++) {
            due("all undone, count " + what, x.count(what), first[what]);
        }
    }

    /** The last 20 ACTS can be UNDONE, and no one ahead of these. */
    private static void undoFull() {
        promise = 16;
        for (int acts = 19; acts <= 41; acts++) {
            WhimWind x = on("plateau 2 9;person 0 20 1");
            for (int i = 0; i < acts; i++) {
                x.wine(0, 1);
                due("acts that can be undone", x.count(13), Math.min(20, i + 1));
            }
            int kept = Math.min(20, acts);
            for (int left = kept - 1; left >= 0; left--) {
                due("how many more", x.undo(), left);
                due("how many more", x.count(13), left);
                due("urge", x.person(0, 3), acts - kept + left);
            }
            due("none can", x.undo(), -2);
            due("urge as it was", x.person(0, 3), acts - kept);
        }
        leaves(() -> {
            WhimWind x = on("plateau 2 9;person 0 20 1");
            hours(x, 25);
            return x;
        }, "an hour of 25, once more", 20, x -> {
            x.undo();
            x.hour();
            return x.count(13);
        });
    }

    /** Acts behind some that were undone take their places, however often these go round. */
    private static void undoRound() {
        promise = 16;
        WhimWind x = on("plateau 2 9;person 0 20 1;person 0 20 1");
        for (int i = 0; i < 25; i++) {
            x.wine(0, 1);
        }
        for (int i = 0; i < 10; i++) {
            x.undo();
        }
        due("ten are left", x.count(13), 10);
        for (int i = 0; i < 15; i++) {
            x.wine(1, 1);
        }
        due("twenty", x.count(13), 20);
        for (int left = 19; left >= 5; left--) {
            due("how many more", x.undo(), left);
            due("urge of one", x.person(0, 3), 15);
            due("urge of the other", x.person(1, 3), left - 5);
        }
        for (int left = 4; left >= 0; left--) {
            due("how many more", x.undo(), left);
            due("urge of one", x.person(0, 3), 10 + left);
            due("urge of the other", x.person(1, 3), 0);
        }
        due("none can", x.undo(), -2);
        due("urge of one", x.person(0, 3), 10);
        due("an act then", x.wine(0, 1), 11);
        due("one can", x.undo(), 0);
    }
}
