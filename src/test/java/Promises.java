/** Each promise of the document by hand: ordinary inputs, the edges that it names, wrong inputs. */
public final class Promises extends Bench {
    private static int plateauFault(String text) {
        return -2 - tellPlateau(new WhimWind(), text);
    }

    private static int ruleFault(String text) {
        return -2 - tellRule(new WhimWind(), text);
    }

    public static void main(String[] args) {
        newObject();
        feed();
        end();
        plateau();
        plateauFaults();
        rule();
        ruleFaults();
        ruleMeaning();
        ruleWords();
        force();
        person();
        mill();
        roof();
        wind();
        hour();
        hourLimits();
        wine();
        place();
        face();
        mend();
        undo();
        ahead();
        whim();
        storm();
        stand();
        turn();
        takes();
        blown();
        still();
        lull();
        harvest();
        rests();
        pence();
        note();
        ruled();
        look();
        seed();
        notions();
        count();
        image();
        back();
        finish();
    }

    private static void newObject() {
        promise = 1;
        WhimWind x = new WhimWind();
        for (int what = 0; what < 16; what++) {
            due("count " + what, x.count(what), what == 6 ? -1 : 0);
        }
        due("NONE", WhimWind.NONE, -1);
        due("hour", x.hour(), -1);
        due("stand", x.stand(0, 1, 0), -1);
        due("still", x.still(1, 0), -2);
        due("blown", x.blown(0, 0, 0), -3);
        due("ruled", x.ruled(0), -3);
        due("look", x.look(0, 0), -1);
        due("storm", x.storm(1), -1);
        due("ahead roofs", x.ahead(0, 0, 3), -1);
        due("lull", x.lull(1, 0), -1);
        due("harvest", x.harvest(1, 0), -1);
        due("notions", x.notions(1, 1, 1, 0), -1);
        due("force of none such", x.force(0), -2);
    }

    private static void feed() {
        promise = 2;
        WhimWind x = new WhimWind();
        due("feed", x.feed(0x77686964, 0, 0, 0, 0), 20);
        due("rule of it: a word that isn't known", x.rule(), -2 - at(0, 0));
        x.feed(0x7768696d, 0x20310000, 0, 0, 0);
        x.end(6);
        due("highest byte first", x.rule(), 0);
        x.feed(-1, -1, -1, -1, -1);
        x.end(1);
        due("a byte of 255", x.rule(), -2 - at(0, 0));
        for (int i = 1; i <= 20; i++) {
            due("feed " + i, x.feed(1, 2, 3, 4, 5), 20 * i);
        }
        due("beyond 400", x.feed(0, 0, 0, 0, 0), -1);
        due("none came", x.count(15), 400);
        x.end(381);
        due("401 at 381", x.feed(0, 0, 0, 0, 0), -1);
        due("381 still", x.count(15), 381);
        x.end(380);
        due("400 again", x.feed(0, 0, 0, 0, 0), 400);
        x.end(0);
        for (int i = 0; i < 5; i++) {
            x.feed(0x20202020, 0x20202020, 0x20202020, 0x20202020, 0x20202020);
        }
        x.feed(0x20207768, 0x696d2039, 0x20202020, 0x20202020, 0x20202020);
        due("all numbers of a feed come in their order", x.rule(), 1);
    }

    private static void end() {
        promise = 3;
        WhimWind x = new WhimWind();
        due("end 0", x.end(0), 0);
        due("end 1 of none", x.end(1), -1);
        x.feed(0, 0, 0, 0, 0);
        due("below 0", x.end(-1), -1);
        due("nothing happens", x.count(15), 20);
        due("21 of 20", x.end(21), -1);
        due("nothing happens", x.count(15), 20);
        due("all", x.end(20), 20);
        due("some", x.end(7), 7);
        due("left", x.count(15), 7);
        due("not so many any more", x.end(8), -1);
        due("the greatest", x.end(Integer.MAX_VALUE), -1);
        due("the least", x.end(Integer.MIN_VALUE), -1);
    }

    private static void plateau() {
        promise = 4;
        WhimWind x = new WhimWind();
        tellRule(x, "whim 1");
        x.force(0);
        x.seed(77);
        due("least", tellPlateau(x, "plateau 2 1"), 0);
        due("most", tellPlateau(x, "plateau 6 9" + many(";person 35 20 3", 6) + many(";mill 35 20", 4)
            + many(";roof 35 40", 4)), 6);
        due("tape", x.count(15), 0);
        due("side", x.count(0), 6);
        due("catch", x.count(1), 9);
        due("mills", x.count(3), 4);
        due("roofs", x.count(4), 4);
        due("blanks", tellPlateau(x, "  plateau2  3 ;person 0 0 0;  roof0 0 ;mill   3 1   "), 1);
        due("leading zeros", tellPlateau(x, "plateau 00002 00009;person 00003 00020 00003"), 1);
        x.wine(0, 3);
        x.hour();
        x.note(0, 0, 0);
        due("a fault", tellPlateau(x, "plateau 3 3;"), -2 - at(12, 0));
        due("all stays: side", x.count(0), 2);
        due("all stays: notes", x.count(12), 1);
        due("all stays: acts", x.count(13), 2);
        due("all stays: hour", x.count(7), 1);
        due("the tape is empty", x.count(15), 0);
        due("in place of it", tellPlateau(x, "plateau 4 4;person 9 8 2;person 9 8 2"), 2);
        due("no notes", x.count(12), 0);
        due("nothing to be undone", x.undo(), -2);
        due("rule in force", x.count(6), 0);
        due("x", x.count(14), 77);
        due("hour", x.count(7), 0);
        due("acted", x.count(11), 0);
        due("since", x.person(0, 5), 99);
        due("urge", x.person(0, 3), 0);
    }

    private static void plateauFaults() {
        promise = 4;
        due("empty", plateauFault(""), at(0, 0));
        due("blanks only", plateauFault("   "), at(3, 0));
        due("another word", plateauFault("plateaus 2 1"), at(0, 0));
        due("another sign", plateauFault(" Plateau 2 1"), at(1, 0));
        due("a clause ahead of it", plateauFault(" person 0 0 0;plateau 2 1"), at(1, 4));
        due("whim", plateauFault("whim 1"), at(0, 0));
        due("no number", plateauFault("plateau"), at(7, 0));
        due("no number behind a blank", plateauFault("plateau "), at(8, 0));
        due("one number", plateauFault("plateau 2"), at(9, 0));
        due("a word for a number", plateauFault("plateau two 1"), at(8, 0));
        due("side 1", plateauFault("plateau 1 1"), at(8, 1));
        due("side 7", plateauFault("plateau 7 1"), at(8, 1));
        due("catch 0", plateauFault("plateau 2 0"), at(10, 1));
        due("catch 10", plateauFault("plateau 2 10"), at(10, 1));
        due("six digits", plateauFault("plateau 000002 1"), at(8, 1));
        due("three numbers", plateauFault("plateau 2 1 1"), at(12, 0));
        due("a second one", plateauFault("plateau 2 1; plateau 2 1"), at(13, 4));
        due("cell 4 of 4", plateauFault("plateau 2 1;person 4 0 0"), at(19, 1));
        due("steady 21", plateauFault("plateau 2 1;person 3 21 0"), at(21, 1));
        due("faces 4", plateauFault("plateau 2 1;person 3 20 4"), at(24, 1));
        due("faces missing", plateauFault("plateau 2 1;person 3 20;mill 0 1"), at(23, 0));
        due("mill's cell", plateauFault("plateau 6 1;mill 36 1"), at(17, 1));
        due("can 0", plateauFault("plateau 2 1;mill 3 0"), at(19, 1));
        due("can 21", plateauFault("plateau 2 1;mill 3 21"), at(19, 1));
        due("roof's cell", plateauFault("plateau 2 1;roof 99999 1"), at(17, 1));
        due("holds 41", plateauFault("plateau 2 1;roof 3 41"), at(19, 1));
        due("minus", plateauFault("plateau 2 1;roof 3 -1"), at(19, 0));
        due("a comma", plateauFault("plateau 2 1,person 0 0 0"), at(11, 0));
        due("two semicolons", plateauFault("plateau 2 1;;person 0 0 0"), at(12, 0));
        due("seventh person", plateauFault("plateau 2 1" + many(";person 0 0 0", 7)), at(11 + 13 * 6 + 1, 4));
        due("fifth mill", plateauFault("plateau 2 1" + many(";mill 0 1", 5)), at(11 + 9 * 4 + 1, 4));
        due("fifth roof", plateauFault("plateau 2 1" + many(";roof 0 1", 5)), at(11 + 9 * 4 + 1, 4));
        due("the first fault counts", plateauFault("plateau 9 1;plateau 2 1"), at(8, 1));
        due("a tab", plateauFault("plateau\t2 1"), at(7, 0));
        due("400 bytes, the last wrong", plateauFault("plateau 2 1" + many(" ", 388) + "?"), at(399, 0));
        due("400 bytes and the end", plateauFault("plateau 2 1" + many(" ", 388) + ";"), at(400, 0));
    }

    private static void rule() {
        promise = 5;
        WhimWind x = new WhimWind();
        for (int r = 0; r < 6; r++) {
            due("number", tellRule(x, "whim " + r), r);
            due("a fault takes no number", tellRule(x, "whim ?"), r == 5 ? -1 : -2 - at(5, 0));
        }
        due("nothing happens: the tape stays", x.count(15), 6);
        due("six", x.count(5), 6);
        due("none more", x.rule(), -1);
        due("tape", x.count(15), 6);
        WhimWind y = new WhimWind();
        due("twelve clauses", tellRule(y, "whim 1" + many(";whim 1", 11)), 0);
        due("sixty values", tellRule(y, "whim 1" + many("+1", 59)), 1);
        due("values and facts, sixty", tellRule(y, "whim 1 if 1" + many("+1", 56) + "=1"), 2);
        due("ten deep", tellRule(y, "whim 1 if " + many("[", 10) + "1=1" + many("]", 10)), 3);
        due("ten nots", tellRule(y, "whim 1 if " + many("not ", 10) + "1=1 and " + many("not ", 10) + "1=1"), 4);
        WhimWind z = new WhimWind();
        for (int i = 0; i < 12; i++) {
            due("long ones at fault", tellRule(z, "whim 1 if 1=1" + many(" or 1=1", 17) + "+?"), -2 - at(133, 0));
        }
        due("then one that is sound", tellRule(z, "whim 1 if 1=1" + many(" and 1=1", 16) + "; whim 0"), 0);
        tellPlateau(z, "plateau 2 1;person 0 9 0");
        z.force(0);
        due("and means what it says", z.hour(), 1);
        due("without blanks", tellRule(y, "whim1if[urge>1]or[not[off=0]]and hour<=3"), 5);
    }

    private static void ruleFaults() {
        promise = 5;
        due("empty", ruleFault(""), at(0, 0));
        due("no sum", ruleFault("whim "), at(5, 0));
        due("another word", ruleFault("whimsy 1"), at(0, 0));
        due("a word that isn't known", ruleFault("whim urges"), at(5, 0));
        due("a key word for a value", ruleFault("whim if"), at(5, 0));
        due("mill is no word of a person", ruleFault("whim mill"), at(5, 0));
        due("no test", ruleFault("whim 1 if"), at(9, 0));
        due("no sign", ruleFault("whim 1 if urge"), at(14, 0));
        due("no right sum", ruleFault("whim 1 if urge >= "), at(18, 0));
        due("signs apart", ruleFault("whim 1 if urge > = 1"), at(17, 0));
        due("an equal sign first", ruleFault("whim 1 if urge =< 1"), at(16, 0));
        due("two signs", ruleFault("whim 1 if 1 < 2 < 3"), at(16, 0));
        due("six digits", ruleFault("whim 1 + 100000"), at(9, 1));
        due("six digits where none can stand", ruleFault("whim 1 100000"), at(7, 0));
        due("a bracket in a sum", ruleFault("whim [1]"), at(5, 0));
        due("a bracket round a sum", ruleFault("whim 1 if [urge] > 1"), at(15, 0));
        due("a bracket in a right sum", ruleFault("whim 1 if urge > [1]"), at(17, 0));
        due("a bracket left open", ruleFault("whim 1 if [urge > 1"), at(19, 0));
        due("a bracket left open, then a clause", ruleFault("whim 1 if [urge > 1;whim 1"), at(19, 0));
        due("a bracket that closes none", ruleFault("whim 1 if urge=1]"), at(16, 0));
        due("a bracket too many", ruleFault("whim 1 if [urge=1]]"), at(18, 0));
        due("a bracket that closes a sum", ruleFault("whim 1]"), at(6, 0));
        due("a sum goes on behind a bracket", ruleFault("whim 1 if [urge=1]+1"), at(18, 0));
        due("a second if", ruleFault("whim 1 if 1=1 if 1=1"), at(14, 0));
        due("and without a test", ruleFault("whim 1 and 1=1"), at(7, 0));
        due("and behind a left sum", ruleFault("whim 1 if 1 and 1=1"), at(12, 0));
        due("not in a sum", ruleFault("whim not 1"), at(5, 0));
        due("not behind a fact", ruleFault("whim 1 if 1=1 not 1=1"), at(14, 0));
        due("an end behind a semicolon", ruleFault("whim 1; "), at(8, 0));
        due("a word that goes on", ruleFault("whim urgez"), at(5, 0));
        due("a word with another first letter", ruleFault("whim zrge"), at(5, 0));
        due("a word with another last letter", ruleFault("whim urga"), at(5, 0));
        due("deep behind a not", ruleFault("whim 1 if not 1=1 and " + many("not ", 11) + "1=1"), at(62, 2));
        due("deep behind signs", ruleFault("whim 1 if [[1+1*1=2 and " + many("[", 9)), at(32, 2));
        due("words run together", ruleFault("whim urgeif 1=1"), at(5, 0));
        due("a minus ahead", ruleFault("whim -1"), at(5, 0));
        due("deep brackets", ruleFault("whim 1 if " + many("[", 11) + "1=1"), at(20, 2));
        due("deep nots", ruleFault("whim 1 if " + many("not ", 11) + "1=1"), at(50, 2));
        due("deep both", ruleFault("whim 1 if " + many("not[", 5) + " not 1=1"), at(31, 2));
        due("value 61", ruleFault("whim 1" + many("+1", 60)), at(125, 3));
        due("value 61 of six digits", ruleFault("whim 1" + many("+1", 59) + "+123456"), at(125, 1));
        due("value 61 not known", ruleFault("whim 1" + many("+1", 59) + "+urges"), at(125, 0));
        due("fact 61", ruleFault("whim 1 if 1" + many("+1", 58) + " <= 1"), at(128, 3));
        due("value 61 behind a fact", ruleFault("whim 1 if 1" + many("+1", 57) + " <= 1"), at(129, 3));
        due("values of all clauses", ruleFault("whim 1" + many("+1", 29) + ";whim 1" + many("+1", 29) + ";whim 1"),
            at(64 + 65 + 6, 3));
        due("clause 13", ruleFault("whim 1" + many("; whim 1", 12)), at(6 + 8 * 11 + 2, 4));
        due("clause 13 that is none", ruleFault("whim 1" + many("; whim 1", 11) + "; when 1"), at(96, 0));
        due("clause 13 missing", ruleFault("whim 1" + many("; whim 1", 11) + ";"), at(95, 0));
        due("plateau", ruleFault("plateau 2 1"), at(0, 0));
        due("a byte of 128", ruleFault("whim 1\u0080"), at(6, 0));
    }

    /** Whether a PERSON of URGE 1 gives way in the first HOUR. */
    private static void gives(String rule, boolean is) {
        WhimWind x = by("plateau 3 2;person 5 7 3", rule);
        due(rule, x.hour(), is ? 1 : 0);
    }

    private static void ruleMeaning() {
        promise = 11;
        gives("whim 1", true);
        gives("whim 0", false);
        gives("whim 0 - 1", false);
        gives("whim 1 if 1 = 2", false);
        gives("whim 0 if 1 = 1; whim 1", false);
        gives("whim 1 if 1 = 2; whim 0; whim 1", false);
        gives("whim 0 if 1 = 2; whim 1", true);
        gives("whim 1 if 1 = 2" + many(";whim 1 if 1 = 2", 11), false);
        gives("whim 1 if 1 = 2" + many(";whim 1 if 1 = 2", 10) + "; whim 1", true);
        gives("whim 2 - 1 - 1", false);
        gives("whim 2 + 3 * 4 - 13", true);
        gives("whim 2 + 3 * 4 - 14", false);
        gives("whim 12 / 5 * 5 - 9", true);
        gives("whim 12 / 5 * 5 - 10", false);
        gives("whim 12 % 7 - 4", true);
        gives("whim 12 % 7 - 5", false);
        gives("whim 7 / 0", false);
        gives("whim 7 % 0", false);
        gives("whim 1 + 7 / 0 + 7 % 0", true);
        gives("whim 5 * 7 / 0 + 1", true);
        gives("whim 99999*99999*99999*9999", false);
        gives("whim 1 if 0 - 99999*99999*99999*9999 > 0", true);
        gives("whim 0 - 7 / 2 + 4", true);
        gives("whim 1 if 1 = 1 or 1 = 1 and 1 = 2", true);
        gives("whim 1 if [1 = 1 or 1 = 1] and 1 = 2", false);
        gives("whim 1 if not 1 = 1 or 1 = 1", true);
        gives("whim 1 if not [1 = 1 or 1 = 1]", false);
        gives("whim 1 if not 1 = 2 and 1 = 2", false);
        gives("whim 1 if not not 1 = 1", true);
        gives("whim 1 if 1 < 2", true);
        gives("whim 1 if 2 < 2", false);
        gives("whim 1 if 2 <= 2", true);
        gives("whim 1 if 3 <= 2", false);
        gives("whim 1 if 3 = 2", false);
        gives("whim 1 if 2 >= 2", true);
        gives("whim 1 if 1 >= 2", false);
        gives("whim 1 if 2 > 2", false);
        gives("whim 1 if 3 > 2", true);
        gives("whim 1 if 1 + 1 * 2 = 6 / 2", true);
    }

    private static void ruleWords() {
        promise = 11;
        gives("whim 1 if urge = 1", true);
        gives("whim 1 if steady = 7", true);
        gives("whim 1 if faces = 3", true);
        gives("whim 1 if row = 1", true);
        gives("whim 1 if column = 2", true);
        gives("whim 1 if wind = 0", true);
        gives("whim 1 if acted = 0", true);
        gives("whim 1 if since = 99", true);
        gives("whim 1 if ground = 0 and off = 0 and hour = 0", true);
        WhimWind x = by("plateau 3 2;person 0 0 1;person 1 0 1;mill 2 9;mill 1 9;roof 2 0;roof 1 0;roof 8 0",
            "whim 1 if hour = 0;"
            + "whim 1 if hour = 1 and person = 1 and wind = 1 and acted = 1 and since = 1 and ground = 3 and off = 2;"
            + "whim 1 if hour = 2 and person = 0 and wind = 0 and since = 2 and acted = 1;"
            + "whim 1 if hour = 2 and person = 1 and since = 1 and acted = 2 and urge = 1");
        due("all in the first", x.hour(), 3);
        due("mills", x.count(8), 1 + 1);
        due("one misses: ground is 2", x.hour(), 0);
        due("person 0 now", x.hour(), 1);
        x = by("plateau 3 2;person 0 0 1;person 1 0 1;mill 2 9;mill 1 9;roof 2 0;roof 1 0;roof 8 0",
            "whim 1 if hour = 0;"
            + "whim 1 if hour = 1 and person = 1 and wind = 1 and acted = 1 and since = 1 and ground = 2 and off = 2;"
            + "whim 1 if hour = 2 and person = 0 and wind = 0 and since = 2 and acted = 1;"
            + "whim 1 if hour = 2 and person = 1 and since = 1 and acted = 2 and urge = 1");
        due("all in the first", x.hour(), 3);
        due("person 1 alone", x.hour(), 2);
        due("both", x.hour(), 3);
        x = by("plateau 2 2;person 0 0 1", "whim 1 if hour = 0; whim since - 98");
        due("once", x.hour(), 1);
        hours(x, 98);
        due("99 hours since", x.person(0, 5), 99);
        due("then again", x.hour(), 1);
    }

    private static void force() {
        promise = 6;
        WhimWind x = new WhimWind();
        due("none to none", x.force(-1), -1);
        due("none such", x.force(0), -2);
        tellRule(x, "whim 1");
        tellRule(x, "whim 0");
        due("telling forces none", x.count(6), -1);
        due("first", x.force(1), -1);
        due("second", x.force(0), 1);
        due("none such", x.force(2), -2);
        due("below", x.force(-2), -2);
        due("nothing happens", x.count(6), 0);
        due("back to none", x.force(-1), 0);
        due("none", x.count(6), -1);
        tellPlateau(x, "plateau 2 1;person 0 5 1");
        due("by no rule", x.hour(), 0);
        x.force(0);
        due("by rule 0", x.hour(), 1);
        x.force(1);
        hours(x, 7);
        due("by rule 1", x.count(11), 1);
    }

    private static void person() {
        promise = 7;
        WhimWind x = on("plateau 3 2;person 3 2 1;person 5 3 3");
        int[] at0 = {3, 2, 1, 0, 0, 99};
        int[] at1 = {5, 3, 3, 0, 0, 99};
        for (int what = 0; what < 6; what++) {
            due("person 0, " + what, x.person(0, what), at0[what]);
            due("person 1, " + what, x.person(1, what), at1[what]);
        }
        hours(x, 3);
        int[] later0 = {3, 2, 1, 0, 1, 1};
        int[] later1 = {5, 3, 3, 4, 0, 99};
        for (int what = 0; what < 6; what++) {
            due("later person 0, " + what, x.person(0, what), later0[what]);
            due("later person 1, " + what, x.person(1, what), later1[what]);
        }
        x.hour();
        due("two hours since", x.person(0, 5), 2);
        due("one hour since", x.person(1, 5), 1);
        due("person 2", x.person(2, 0), -1);
        due("person -1", x.person(-1, 0), -1);
        due("what 6", x.person(0, 6), -1);
        due("what -1", x.person(0, -1), -1);
    }

    private static void mill() {
        promise = 8;
        WhimWind x = on("plateau 3 2;person 3 2 1;mill 4 3;mill 5 1;mill 6 20");
        hours(x, 3);
        int[][] all = {{4, 3, 3}, {5, 1, 1}, {6, 20, 0}};
        for (int m = 0; m < 3; m++) {
            for (int what = 0; what < 3; what++) {
                due("mill " + m + ", " + what, x.mill(m, what), all[m][what]);
            }
        }
        due("mill 3", x.mill(3, 0), -1);
        due("mill -1", x.mill(-1, 0), -1);
        due("what 3", x.mill(0, 3), -1);
        due("what -1", x.mill(0, -1), -1);
    }

    private static void roof() {
        promise = 9;
        WhimWind x = on("plateau 3 2;person 3 2 1;roof 4 2;roof 4 3;roof 5 0;roof 0 0");
        hours(x, 3);
        int[][] all = {{4, 2, 1}, {4, 3, 0}, {5, 0, 1}, {0, 0, 0}};
        for (int r = 0; r < 4; r++) {
            for (int what = 0; what < 3; what++) {
                due("roof " + r + ", " + what, x.roof(r, what), all[r][what]);
            }
        }
        hours(x, 1);
        due("off it stays", x.roof(0, 2), 1);
        due("roof 4", x.roof(4, 0), -1);
        due("roof -1", x.roof(-1, 0), -1);
        due("what 3", x.roof(0, 3), -1);
        due("what -1", x.roof(0, -1), -1);
    }

    private static void wind() {
        promise = 10;
        WhimWind x = on("plateau 4 9;person 5 20 0;person 5 20 1;person 5 20 2;person 5 20 3");
        for (int p = 0; p < 4; p++) {
            x.wine(p, 9);
            x.wine(p, 9);
            x.wine(p, 2);
        }
        due("all four", x.hour(), 15);
        int[] all = {0, 21, 0, 0, 21, 0, 21, 20, 0, 21, 0, 0, 0, 20, 0, 0};
        for (int cell = 0; cell < 16; cell++) {
            due("wind in " + cell, x.wind(cell), all[cell]);
        }
        due("wind in 16", x.wind(16), -1);
        due("wind in -1", x.wind(-1), -1);
        x.hour();
        for (int cell = 0; cell < 16; cell++) {
            due("wind is gone in " + cell, x.wind(cell), 0);
        }
        x = by("plateau 6 9;person 30 0 0;person 24 0 1", "whim urge - 2");
        x.wine(0, 2);
        due("a puff is less from cell to cell", x.hour(), 1);
        int[] up = {24, 18, 12, 6, 0};
        int[] much = {3, 2, 1, 0, 0};
        for (int i = 0; i < 5; i++) {
            due("wind in " + up[i], x.wind(up[i]), much[i]);
        }
    }

    private static void hour() {
        promise = 11;
        WhimWind x = on("plateau 3 2;person 3 2 1;person 5 3 3;mill 4 3;mill 5 5;roof 4 2");
        due("hour 0", x.hour(), 0);
        due("hour 1", x.hour(), 0);
        due("hour 2", x.hour(), 1);
        due("puffs", x.wind(4), 3);
        due("on", x.wind(5), 2);
        due("one catches it", x.person(1, 3), 3 + 2 / 2);
        due("urge is 0", x.person(0, 3), 0);
        due("hour 3", x.hour(), 2);
        due("wind in 4", x.wind(4), 5);
        due("wind in 3", x.wind(3), 4);
        due("caught", x.person(0, 3), 1 + 4 / 2);
        due("can at most", x.mill(0, 2), 3 + 3);
        due("hours", x.count(7), 4);
        x = on("plateau 2 1;person 0 1 1;person 1 1 3");
        due("neither", x.hour(), 0);
        due("both, by how it is behind the growth", x.hour(), 3);
        due("their own urge is 0 ahead of what they catch", x.person(0, 3), 2);
        due("likewise", x.person(1, 3), 2);
        x = on("plateau 2 9;person 0 0 1;person 1 20 3");
        x.wine(0, 9);
        x.hour();
        due("10 by 9 is 1", x.person(1, 3), 2);
        x = on("plateau 2 9;person 0 0 1;person 1 20 3");
        x.wine(0, 7);
        x.hour();
        due("8 by 9 is 0", x.person(1, 3), 1);
        x = on("plateau 2 9;person 0 20 1;person 0 20 1;person 3 0 3;mill 1 20;roof 1 40;roof 1 39");
        for (int i = 0; i < 2; i++) {
            x.wine(0, 9);
            x.wine(1, 9);
        }
        x.wine(1, 2);
        due("above steady", x.hour(), 2 + 4);
        due("of two that stand in one cell", x.person(0, 3), 19);
        x.wine(1, 9);
        x.wine(1, 9);
        x.wine(1, 1);
        due("just steady", x.hour(), 4);
        due("all three", x.hour(), 1 + 2 + 4);
        due("puffs together", x.wind(1), 21 + 21);
        due("can at most", x.mill(0, 2), 20 + 20);
        due("more than they hold", x.count(9), 3);
    }

    private static void hourLimits() {
        promise = 11;
        WhimWind x = by("plateau 2 1;person 0 0 1;person 1 0 3;mill 0 20;mill 1 19;roof 0 40;roof 1 39",
            "whim urge - 9");
        for (int i = 0; i < 2; i++) {
            for (int n = 0; n < 11; n++) {
                x.wine(i, 9);
            }
        }
        due("99 at most", x.person(0, 3), 99);
        due("both", x.hour(), 3);
        due("growth stops at 99, too", x.wind(0), 99);
        due("caught", x.person(0, 3), 99);
        due("off", x.count(9), 3);
        hours(x, 440);
        due("ground", x.mill(0, 2), 441 * 20);
        due("ahead 58", x.ahead(0, 58, 1), 499 * 20);
        due("ahead 59", x.ahead(0, 59, 1), 9999);
        due("ahead 100", x.ahead(0, 100, 1), 9999);
        due("each mill its own", x.ahead(1, 59, 1), 500 * 19);
        due("takes all", x.takes(0, 0, 9999, 59), 0);
        due("not so soon", x.takes(0, 0, 9999, 58), -2);
        due("ground in these", x.notions(1, 60, 0, 0), 9999 - 441 * 20 + 60 * 19);
    }

    private static void wine() {
        promise = 12;
        WhimWind x = on("plateau 2 1;person 0 20 1;person 3 20 1");
        due("wine", x.wine(0, 1), 1);
        due("more", x.wine(0, 9), 10);
        due("the other has none", x.person(1, 3), 0);
        due("0", x.wine(0, 0), -1);
        due("10", x.wine(0, 10), -1);
        due("below", x.wine(0, -1), -1);
        due("person 2", x.wine(2, 1), -1);
        due("person -1", x.wine(-1, 1), -1);
        due("acts", x.count(13), 2);
        for (int i = 0; i < 9; i++) {
            x.wine(0, 9);
        }
        due("91", x.person(0, 3), 91);
        due("99 at most", x.wine(0, 9), 99);
        due("an act all the same", x.wine(0, 1), 99);
        due("acts", x.count(13), 13);
        due("undone", x.undo(), 12);
        due("99 still", x.person(0, 3), 99);
        x.undo();
        due("91 again", x.person(0, 3), 91);
    }

    private static void place() {
        promise = 13;
        WhimWind x = on("plateau 2 1;person 0 20 1");
        due("place", x.place(0, 3), 0);
        due("there", x.person(0, 0), 3);
        due("the same", x.place(0, 3), -1);
        due("cell 4", x.place(0, 4), -1);
        due("cell -1", x.place(0, -1), -1);
        due("person 1", x.place(1, 0), -1);
        due("acts", x.count(13), 1);
        due("back", x.place(0, 0), 3);
    }

    private static void face() {
        promise = 14;
        WhimWind x = on("plateau 2 1;person 0 20 1");
        due("face", x.face(0, 3), 1);
        due("so", x.person(0, 2), 3);
        due("the same", x.face(0, 3), -1);
        due("way 4", x.face(0, 4), -1);
        due("way -1", x.face(0, -1), -1);
        due("person 1", x.face(1, 0), -1);
        due("acts", x.count(13), 1);
        due("way 0", x.face(0, 0), 3);
    }

    private static void mend() {
        promise = 15;
        WhimWind x = on("plateau 3 1;person 0 0 1;roof 1 0;roof 1 40;roof 1 0;roof 1 0");
        due("none is off", x.mend(0), -1);
        x.hour();
        due("off", x.count(9), 13);
        due("one that holds", x.mend(1), -1);
        due("mend", x.mend(2), 2);
        due("off", x.count(9), 9);
        due("again", x.mend(2), -1);
        due("roof 4", x.mend(4), -1);
        due("roof -1", x.mend(-1), -1);
        due("mend", x.mend(0), 1);
        due("mend", x.mend(3), 0);
        due("acts", x.count(13), 4);
        x.undo();
        due("off again", x.count(9), 8);
        x.hour();
        due("off by wind", x.count(9), 13);
    }

    private static void undo() {
        promise = 16;
        WhimWind x = on("plateau 3 1;person 0 0 1;person 1 3 3;mill 1 9;roof 1 0");
        due("none", x.undo(), -2);
        x.hour();
        x.wine(1, 4);
        x.place(1, 5);
        x.face(1, 2);
        x.mend(0);
        x.note(1, 1, 1);
        x.seed(5);
        due("four more", x.undo(), 4);
        due("mended no more", x.roof(0, 2), 1);
        due("three more", x.undo(), 3);
        due("way", x.person(1, 2), 3);
        due("two more", x.undo(), 2);
        due("cell", x.person(1, 0), 1);
        due("one more", x.undo(), 1);
        due("urge", x.person(1, 3), 2);
        due("no more", x.undo(), 0);
        due("urge", x.person(1, 3), 0);
        due("hour", x.count(7), 0);
        due("ground", x.count(8), 0);
        due("wind", x.count(10), 0);
        due("roofs", x.count(9), 0);
        due("acted", x.count(11), 0);
        due("since", x.person(0, 5), 99);
        due("notes are no acts", x.count(12), 1);
        due("nor is x", x.count(14), 5);
        due("none", x.undo(), -2);
        hours(x, 25);
        due("20 at most", x.count(13), 20);
        for (int i = 19; i >= 0; i--) {
            due("undo", x.undo(), i);
        }
        due("hour", x.count(7), 5);
        due("none", x.undo(), -2);
    }

    private static void ahead() {
        promise = 17;
        WhimWind x = on("plateau 3 2;person 3 2 1;person 5 3 3;mill 4 3;mill 5 5;roof 4 2;roof 0 0");
        due("urge now", x.ahead(0, 0, 0), 0);
        due("urge in 2", x.ahead(0, 2, 0), 2);
        due("urge in 3", x.ahead(1, 3, 0), 4);
        due("ground in 3", x.ahead(1, 3, 1), 2);
        due("wind in 3", x.ahead(5, 3, 2), 2);
        due("wind in 5", x.ahead(4, 2, 2), 0);
        due("roofs in 2", x.ahead(0, 2, 3), 0);
        due("roofs in 3", x.ahead(-7, 3, 3), 1);
        due("nothing changes", x.count(7), 0);
        due("nothing changes", x.person(0, 3), 0);
        int[] urges = new int[101];
        int[] winds = new int[101];
        for (int n = 0; n <= 100; n++) {
            urges[n] = x.ahead(1, n, 0);
            winds[n] = x.ahead(4, n, 2);
        }
        for (int n = 0; n <= 100; n++) {
            due("urge ahead " + n, urges[n], x.person(1, 3));
            due("wind ahead " + n, winds[n], x.wind(4));
            x.hour();
        }
        due("n 101", x.ahead(0, 101, 0), -1);
        due("n -1", x.ahead(0, -1, 0), -1);
        due("person 2", x.ahead(2, 0, 0), -1);
        due("mill 2", x.ahead(2, 0, 1), -1);
        due("cell 9", x.ahead(9, 0, 2), -1);
        due("cell -1", x.ahead(-1, 0, 2), -1);
        due("what 4", x.ahead(0, 0, 4), -1);
        due("what -1", x.ahead(0, 0, -1), -1);
        due("without people", on("plateau 2 1").ahead(0, 0, 0), -1);
        due("without roofs", on("plateau 2 1").ahead(0, 100, 3), 0);
    }

    private static void whim() {
        promise = 18;
        WhimWind x = on("plateau 3 2;person 0 2 0;person 5 20 1");
        due("first", x.whim(0), 2);
        due("second", x.whim(1), 20);
        hours(x, 2);
        due("this one is the first", x.whim(0), 2);
        x.hour();
        due("the next", x.whim(0), 5);
        due("person 2", x.whim(2), -1);
        due("person -1", x.whim(-1), -1);
        WhimWind y = by("plateau 2 1;person 0 0 0", "whim 1 if hour = 99");
        due("the hundredth", y.whim(0), 99);
        y = by("plateau 2 1;person 0 0 0", "whim 1 if hour = 100");
        due("not of these", y.whim(0), -2);
        y.hour();
        due("of these", y.whim(0), 100);
    }

    private static void storm() {
        promise = 19;
        WhimWind x = on("plateau 3 9;person 0 2 0;person 0 3 0;person 0 11 0");
        due("one", x.storm(1), 2);
        due("two", x.storm(2), 11);
        due("three", x.storm(3), 11);
        due("four", x.storm(4), -2);
        due("six", x.storm(6), -2);
        due("none", x.storm(0), -1);
        due("seven", x.storm(7), -1);
        hours(x, 11);
        due("this one is the first", x.storm(3), 11);
        due("without people", on("plateau 2 1").storm(1), -2);
    }

    private static void stand() {
        promise = 20;
        WhimWind x = on("plateau 3 2;person 3 0 1;mill 2 9;roof 4 0;roof 5 1");
        // In cells 0 and 1 the mill is before them or one behind that; nearest is best, of the rest nothing is ground.
        due("cell", x.stand(0, 1, 0), 1);
        due("roofs", x.stand(0, 1, 1), 0);
        due("how much", x.stand(0, 1, 2), 1);
        due("in 5", x.stand(0, 5, 2), 5);
        due("nothing changes", x.person(0, 0), 3);
        x.hour();
        due("a roof is off already", x.stand(0, 1, 1), 1);
        x.mend(0);
        x = on("plateau 2 2;person 3 0 1");
        due("of several the least", x.stand(0, 9, 0), 0);
        x = on("plateau 2 2;person 1 0 1;mill 0 5;person 1 0 3");
        x.hour();
        due("all that is ground counts", x.stand(0, 1, 2), 2);
        due("where they are, too", x.stand(1, 1, 0), 1);
        due("nowhere behind the last row", on("plateau 2 9;person 0 0 0;mill 2 9").stand(0, 3, 2), 0);
        due("n 0", x.stand(0, 0, 0), -1);
        due("n 61", x.stand(0, 61, 0), -1);
        due("n 60", x.stand(0, 60, 1), 0);
        due("what 3", x.stand(0, 1, 3), -1);
        due("what -1", x.stand(0, 1, -1), -1);
        due("person 2", x.stand(2, 1, 0), -1);
        due("person -1", x.stand(-1, 1, 0), -1);
    }

    private static void turn() {
        promise = 21;
        WhimWind x = on("plateau 3 2;person 4 0 0;mill 5 9;mill 7 9;roof 1 0;roof 5 3");
        due("way", x.turn(0, 1, 0), 1);
        due("roofs", x.turn(0, 1, 1), 0);
        due("how much", x.turn(0, 1, 2), 1);
        x.wine(0, 3);
        due("another way now", x.turn(0, 1, 0), 2);
        due("roofs", x.turn(0, 1, 1), 0);
        due("how much", x.turn(0, 2, 2), 5);
        due("nothing changes", x.person(0, 2), 0);
        due("fewer roofs ahead of more ground", on("plateau 2 1;person 0 0 1;roof 1 0;mill 1 9").turn(0, 9, 0), 0);
        due("n 0", x.turn(0, 0, 0), -1);
        due("n 61", x.turn(0, 61, 0), -1);
        due("what 3", x.turn(0, 1, 3), -1);
        due("what -1", x.turn(0, 1, -1), -1);
        due("person 1", x.turn(1, 1, 0), -1);
        due("person -1", x.turn(-1, 1, 0), -1);
    }

    private static void takes() {
        promise = 22;
        WhimWind x = on("plateau 3 2;person 3 2 1;mill 4 20;mill 5 20;mill 0 1");
        due("2 in 1", x.takes(0, 1, 2, 1), 2);
        due("3 in 1", x.takes(0, 1, 3, 1), 3);
        due("20 in 1", x.takes(0, 0, 20, 1), 19);
        due("more than it can", x.takes(0, 0, 21, 1), -2);
        due("19 in 1, behind", x.takes(0, 1, 19, 1), 19);
        due("nothing more in 3", x.takes(0, 0, 3, 3), 0);
        due("another mill", x.takes(0, 2, 1, 60), -2);
        hours(x, 3);
        due("what there is counts", x.takes(0, 0, 3, 1), 0);
        due("nothing changes", x.person(0, 3), 0);
        WhimWind y = by("plateau 2 9;person 0 0 1;mill 1 20", "whim 1 if urge > 40");
        due("40", y.takes(0, 0, 20, 1), 40);
        WhimWind z = by("plateau 2 9;person 0 0 1;mill 1 20", "whim 1 if urge > 41");
        due("beyond 40", z.takes(0, 0, 20, 1), -2);
        due("40 in 2", z.takes(0, 0, 20, 2), 40);
        due("amount 0", x.takes(0, 0, 0, 1), -1);
        due("amount 10000", x.takes(0, 0, 10000, 1), -1);
        due("amount 9999", x.takes(0, 0, 9999, 1), -2);
        due("n 0", x.takes(0, 0, 1, 0), -1);
        due("n 61", x.takes(0, 0, 1, 61), -1);
        due("person 1", x.takes(1, 0, 1, 1), -1);
        due("mill 3", x.takes(0, 3, 1, 1), -1);
        due("mill -1", x.takes(0, -1, 1, 1), -1);
    }

    private static void blown() {
        promise = 23;
        WhimWind x = on("plateau 3 2;person 3 0 1;person 4 0 1;person 8 0 0;person 0 0 0");
        x.wine(0, 3);
        x.wine(1, 2);
        x.wine(2, 4);
        // In cell 5: 2 by person 0, 2 by person 1, 4 by person 2, nothing by person 3.
        due("4: how many", x.blown(5, 4, 0), 4);
        due("4: least", x.blown(5, 4, 1), 3);
        due("4: in all", x.blown(5, 4, 2), 0);
        due("2: how many", x.blown(5, 2, 0), 4);
        due("2: least", x.blown(5, 2, 1), 1);
        due("8: how many", x.blown(5, 8, 0), 2);
        due("8: least", x.blown(5, 8, 1), 7);
        due("8: in all", x.blown(5, 8, 2), 7);
        due("0: how many", x.blown(5, 0, 0), 2);
        due("0: least", x.blown(5, 0, 1), 0);
        due("0: in all", x.blown(5, 0, 2), 0);
        due("3: how many", x.blown(5, 3, 0), 0);
        due("3: least", x.blown(5, 3, 1), -2);
        due("3: in all", x.blown(5, 3, 2), 0);
        due("999", x.blown(5, 999, 0), 0);
        due("one's own cell", x.blown(3, 3, 0), 0);
        due("cell 9", x.blown(9, 0, 0), -3);
        due("cell -1", x.blown(-1, 0, 0), -3);
        due("wind -1", x.blown(5, -1, 0), -3);
        due("wind 1000", x.blown(5, 1000, 0), -3);
        due("what 3", x.blown(5, 0, 3), -3);
        due("what -1", x.blown(5, 0, -1), -3);
        due("nobody at all", on("plateau 2 1").blown(0, 0, 0), 1);
        due("nobody", on("plateau 2 1").blown(0, 0, 1), 0);
    }

    private static void still() {
        promise = 24;
        WhimWind x = on("plateau 3 2;person 3 0 1;person 6 0 1;mill 7 9;roof 4 0");
        due("who", x.still(3, 0), 0);
        due("roofs", x.still(3, 1), 0);
        due("how much", x.still(3, 2), 3);
        x = on("plateau 3 2;person 3 0 1;person 6 0 1;mill 7 9");
        due("nobody", x.still(3, 0), -1);
        due("how much", x.still(3, 2), 3);
        x = by("plateau 2 1;person 0 0 1;roof 1 0", "whim 1");
        due("whatever the rule says", x.still(60, 0), 0);
        due("roofs", x.still(60, 1), 0);
        x = on("plateau 2 1;person 0 0 1;person 0 0 1;roof 1 1;mill 1 1");
        due("of several the least", x.still(1, 0), 0);
        due("ground", x.still(1, 2), 1);
        x.hour();
        due("of several nobody", x.still(1, 0), -1);
        due("without people", on("plateau 2 1").still(1, 0), -1);
        due("n 0", x.still(0, 0), -2);
        due("n 61", x.still(61, 0), -2);
        due("what 3", x.still(1, 3), -2);
        due("what -1", x.still(1, -1), -2);
    }

    private static void lull() {
        promise = 25;
        WhimWind x = by("plateau 2 1;person 0 0 1;person 0 0 0",
            "whim 1 if person = 1 and hour = 4;"
            + "whim 1 if person = 0 and [hour = 0 or hour = 3 or hour = 6 or hour = 11]");
        due("in 1", x.lull(1, 0), 0);
        due("none", x.lull(1, 1), -2);
        due("in 2", x.lull(2, 0), 1);
        due("in 6", x.lull(6, 0), 2);
        due("the first such row", x.lull(6, 1), 1);
        due("of two the first", x.lull(7, 1), 1);
        due("in 100", x.lull(100, 0), 88);
        due("first", x.lull(100, 1), 12);
        due("in 11", x.lull(11, 0), 4);
        due("first", x.lull(11, 1), 7);
        x.hour();
        due("from hour 1 on", x.lull(2, 1), 1);
        due("hours by their numbers", x.lull(99, 1), 12);
        due("n 0", x.lull(0, 0), -1);
        due("n 101", x.lull(101, 0), -1);
        due("what 2", x.lull(1, 2), -1);
        due("what -1", x.lull(1, -1), -1);
        due("nobody", on("plateau 2 1").lull(100, 0), 100);
    }

    private static void harvest() {
        promise = 26;
        WhimWind x = on("plateau 3 2;person 3 2 1;person 5 3 3");
        due("in 2", x.harvest(2, 0), 0);
        due("nothing", x.harvest(2, 1), 0);
        due("in 3", x.harvest(3, 0), 2);
        due("much", x.harvest(3, 1), 5);
        due("in 4", x.harvest(4, 0), 3);
        due("much", x.harvest(4, 1), 9);
        x.hour();
        due("hours by their numbers", x.harvest(3, 0), 3);
        x = by("plateau 3 9;person 3 0 1", "whim 1");
        due("of several the first", x.harvest(100, 0), 0);
        due("n 0", x.harvest(0, 0), -1);
        due("n 101", x.harvest(101, 0), -1);
        due("what 2", x.harvest(1, 2), -1);
        due("what -1", x.harvest(1, -1), -1);
    }

    private static void rests() {
        promise = 27;
        WhimWind x = on("plateau 2 1;person 0 9 0;person 1 9 0");
        due("in 1 nobody gives way", x.rests(0, 1, 1, 0), 16);
        due("first", x.rests(0, 1, 1, 1), 0);
        due("first", x.rests(0, 1, 1, 2), 0);
        // Each gives way the more often, the more wind the other one sends: one's own way matters by what comes back.
        x = by("plateau 2 1;person 0 0 0;person 1 0 0", "whim 1 if faces = 2 and person = 0;"
            + "whim 1 if faces = 1 and person = 1");
        due("one way each", x.rests(0, 1, 5, 0), 1);
        due("of one", x.rests(0, 1, 5, 1), 2);
        due("of the other", x.rests(0, 1, 5, 2), 1);
        due("the other one first", x.rests(1, 0, 5, 1), 1);
        due("then the one", x.rests(1, 0, 5, 2), 2);
        due("nothing changes", x.person(0, 2), 0);
        x = by("plateau 2 1;person 0 0 1;person 1 0 3",
            "whim 1 if person = 0 and wind = 0 and hour > 0 and faces = 1;"
            + "whim 1 if person = 0 and wind > 0 and faces = 0;"
            + "whim 1 if person = 1 and hour = 0 and faces = 3;"
            + "whim 1 if person = 1 and wind > 0 and faces = 0");
        due("rests", x.rests(0, 1, 2, 0), x.rests(1, 0, 2, 0));
        x = by("plateau 2 1;person 0 9 0;person 1 9 0",
            "whim hour - 1 if person = 0 and faces = 1; whim 1 if person = 0 and faces = 2 and hour = 3");
        due("in 3 one's way 1 is best", x.rests(0, 1, 3, 0), 4);
        due("in 3 it is 1", x.rests(0, 1, 3, 1), 1);
        due("in 2 all are as good", x.rests(0, 1, 2, 0), 16);
        x = by("plateau 2 1;person 0 9 0;person 1 9 0", "whim 1 if hour = 0;"
            + "whim 1 if person = 0 and [wind > 0 and faces = 1 or wind = 0 and faces = 2];"
            + "whim 1 if person = 1 and [wind > 0 and faces = 2 or wind = 0 and faces = 3]");
        due("one runs after the other", x.rests(0, 1, 2, 0), 0);
        due("no first", x.rests(0, 1, 2, 1), -2);
        due("no first", x.rests(0, 1, 2, 2), -2);
        due("one and the same", x.rests(1, 1, 1, 0), -1);
        due("person 2", x.rests(0, 2, 1, 0), -1);
        due("person -1", x.rests(-1, 1, 1, 0), -1);
        due("n 0", x.rests(0, 1, 0, 0), -1);
        due("n 21", x.rests(0, 1, 21, 0), -1);
        due("n 20", x.rests(0, 1, 20, 0) >= 0 ? 1 : 0, 1);
        due("what 3", x.rests(0, 1, 1, 3), -1);
        due("what -1", x.rests(0, 1, 1, -1), -1);
    }

    private static void pence() {
        promise = 28;
        WhimWind x = by("plateau 2 9;person 0 0 0;person 0 0 0;person 0 0 0;person 0 0 0",
            "whim 1 if hour < 3 - person % 3");
        due("nobody has", x.pence(100, 0), 0);
        hours(x, 3);
        due("acted", x.count(11), 3 + 2 + 1 + 3);
        // 100 by ninths: 33 3/9, 22 2/9, 11 1/9, 33 3/9: one is left, for the least of those who lost most.
        due("0 of 100", x.pence(100, 0), 34);
        due("1 of 100", x.pence(100, 1), 22);
        due("2 of 100", x.pence(100, 2), 11);
        due("3 of 100", x.pence(100, 3), 33);
        // 13: 4 3/9, 2 8/9, 1 4/9, 4 3/9: two are left.
        due("0 of 13", x.pence(13, 0), 4);
        due("1 of 13", x.pence(13, 1), 3);
        due("2 of 13", x.pence(13, 2), 2);
        due("3 of 13", x.pence(13, 3), 4);
        due("0 of 9999", x.pence(9999, 0), 3333);
        due("0 of 0", x.pence(0, 0), 0);
        due("much -1", x.pence(-1, 0), -1);
        due("much 10000", x.pence(10000, 0), -1);
        due("person 4", x.pence(1, 4), -1);
        due("person -1", x.pence(1, -1), -1);
    }

    private static void note() {
        promise = 29;
        WhimWind x = on("plateau 2 9;person 0 0 1");
        due("first", x.note(0, 0, 0), 1);
        due("most", x.note(60, 3, 999), 2);
        due("n 61", x.note(61, 0, 0), -2);
        due("n -2", x.note(-2, 0, 0), -2);
        due("cell 4", x.note(0, 4, 0), -2);
        due("cell -1", x.note(0, -1, 0), -2);
        due("wind 1000", x.note(0, 0, 1000), -2);
        due("wind -1", x.note(0, 0, -1), -2);
        due("two", x.count(12), 2);
        for (int i = 3; i <= 10; i++) {
            due("note " + i, x.note(0, 0, 0), i);
        }
        due("an eleventh", x.note(0, 0, 0), -2);
        due("ten", x.count(12), 10);
        due("none", x.note(-1, 99, -99), 0);
        due("none", x.count(12), 0);
        due("one", x.note(0, 0, 0), 1);
    }

    private static void ruled() {
        promise = 30;
        WhimWind x = on("plateau 3 9;person 3 2 1");
        due("none alone", x.ruled(0), 1);
        tellRule(x, "whim 1");
        tellRule(x, "whim urge - 2");
        tellRule(x, "whim 0");
        due("all", x.ruled(0), 4);
        due("none is first", x.ruled(1), -1);
        x.note(2, 4, 3);
        due("none and rule 1", x.ruled(0), 2);
        due("none is first", x.ruled(1), -1);
        x.note(-1, 0, 0);
        x.note(2, 4, 1);
        due("rule 0", x.ruled(0), 1);
        due("its number", x.ruled(1), 0);
        x.note(0, 4, 1);
        x.note(60, 4, 1);
        x.note(60, 5, 0);
        due("still", x.ruled(1), 0);
        x.note(60, 5, 1);
        due("none such", x.ruled(0), 0);
        due("none such", x.ruled(1), -2);
        x.note(-1, 0, 0);
        for (int n = 0; n < 10; n++) {
            x.note(n, 4, 1);
        }
        due("ten notes", x.ruled(1), 0);
        x.note(-1, 0, 0);
        x.note(59, 4, 0);
        x.hour();
        x.place(0, 0);
        x.wine(0, 9);
        due("from the begin on", x.ruled(0), 1);
        due("which never blows", x.ruled(1), 2);
        due("what 2", x.ruled(2), -3);
        due("what -1", x.ruled(-1), -3);
    }

    private static void look() {
        promise = 31;
        WhimWind x = on("plateau 3 9;person 0 2 1;person 3 20 1;person 8 20 3");
        tellRule(x, "whim 1 if person = 0 and hour % 2 = 0");
        tellRule(x, "whim 1 if person = 1");
        tellRule(x, "whim 1 if hour = 2 and person < 2");
        // Hour 2: none: 3, 2 in cells 1, 2. Rule 0: 2, 1 there. Rule 1: 1 in cell 4. Rule 2: 3, 2 and 3, 2.
        due("cell", x.look(2, 0), 1);
        due("two alike", x.look(2, 1), 2);
        // Hour 0: rule 0: 1 in cell 1; rule 1: 1 in cell 4.
        due("of several the least", x.look(0, 0), 1);
        due("three alike", x.look(0, 1), 3);
        due("hour 1: cell", x.look(1, 0), 4);
        due("hour 1: three alike", x.look(1, 1), 3);
        x.note(2, 1, 3);
        due("two are left", x.ruled(0), 2);
        due("which part in", x.look(2, 0), 4);
        due("fully", x.look(2, 1), 1);
        due("nowhere in hour 0", x.look(0, 0), 0);
        due("both alike", x.look(0, 1), 2);
        WhimWind y = on("plateau 2 9;person 0 20 1");
        for (int r = 0; r < 6; r++) {
            tellRule(y, "whim 1 if hour = " + r);
        }
        y.note(5, 1, 6);
        due("the last rule alone", y.ruled(1), 5);
        due("first cell", y.look(7, 0), 0);
        due("one is alike", y.look(7, 1), 1);
        x.note(2, 1, 9);
        due("no rule is so", x.look(2, 0), -2);
        due("no rule is so", x.look(2, 1), -2);
        due("n 61", x.look(61, 0), -1);
        due("n -1", x.look(-1, 0), -1);
        due("n 60", x.look(60, 0), -2);
        due("what 2", x.look(1, 2), -1);
        due("what -1", x.look(1, -1), -1);
    }

    private static void seed() {
        promise = 32;
        WhimWind x = new WhimWind();
        due("0 at first", x.seed(5), 0);
        due("what it was", x.seed(Integer.MAX_VALUE), 5);
        due("below 0", x.seed(-1), -1);
        due("the least", x.seed(Integer.MIN_VALUE), -1);
        due("nothing happens", x.count(14), Integer.MAX_VALUE);
        due("the greatest", x.seed(0), Integer.MAX_VALUE);
    }

    private static void notions() {
        promise = 33;
        // DRAWS from 0: 0, 21468, 9988, 22117, 3498, 16927, 16045, 19741, 12122, 8410.
        WhimWind x = on("plateau 2 9;person 0 9 1;person 2 9 1;person 3 9 3;mill 1 20;mill 3 20;mill 2 20;roof 1 9");
        due("p 0", x.notions(1, 1, 0, 0), 0);
        // 21468 mod 3 is 0: person 0 has 10 and gives way.
        due("one hour", x.notions(1, 1, 1, 0), 10);
        due("roofs", x.notions(1, 1, 100, 1), 1);
        // Once more: 9988 mod 100 is 88; 22117 mod 3 is 1: person 1 has 10.
        due("two times", x.notions(2, 1, 89, 0), 20);
        due("roofs all together", x.notions(2, 1, 89, 1), 1);
        due("two times, the second without", x.notions(2, 1, 88, 0), 10);
        // Two hours on end: person 0 gives way, then person 1, of 11.
        due("two hours", x.notions(1, 2, 89, 0), 10 + 11);
        due("x as it was", x.count(14), 0);
        due("nothing changes", x.person(0, 3), 0);
        x.wine(0, 9);
        x.hour();
        due("off already", x.notions(3, 1, 0, 1), 3);
        due("ground in these alone", x.notions(3, 1, 0, 0), 0);
        due("m 0", x.notions(0, 1, 0, 0), -1);
        due("m 11", x.notions(11, 1, 0, 0), -1);
        due("n 0", x.notions(1, 0, 0, 0), -1);
        due("n 61", x.notions(1, 61, 0, 0), -1);
        due("p -1", x.notions(1, 1, -1, 0), -1);
        due("p 101", x.notions(1, 1, 101, 0), -1);
        due("what 2", x.notions(1, 1, 0, 2), -1);
        due("what -1", x.notions(1, 1, 0, -1), -1);
        due("somebody alone", on("plateau 2 1;person 0 9 1;mill 1 20").notions(1, 1, 1, 0), 10);
        due("nobody", on("plateau 2 1;mill 0 1").notions(10, 60, 100, 0), 0);
        // From x 12345 on 21468 is drawn first: 68; then 9988, of which the rest by 3 is 1.
        WhimWind y = on("plateau 2 9;person 0 9 1;person 2 9 1;person 3 9 3;mill 1 20;mill 3 19;mill 2 20");
        y.seed(12345);
        due("another x", y.notions(1, 1, 69, 0), 10);
        due("not below", y.notions(1, 1, 68, 0), 0);
    }

    private static void count() {
        promise = 34;
        WhimWind x = on("plateau 3 2;person 3 2 1;person 5 3 3;mill 4 3;mill 5 5;roof 0 0;roof 4 2");
        tellRule(x, "whim urge - steady");
        x.force(0);
        hours(x, 3);
        x.wine(0, 1);
        x.note(1, 1, 1);
        x.seed(9);
        x.feed(1, 1, 1, 1, 1);
        int[] all = {3, 2, 2, 2, 2, 1, 0, 3, 5, 2, 5, 1, 1, 4, 9, 20};
        for (int what = 0; what < 16; what++) {
            due("what " + what, x.count(what), all[what]);
        }
        due("what 16", x.count(16), -1);
        due("what -1", x.count(-1), -1);
    }

    private static void image() {
        promise = 35;
        WhimWind x = new WhimWind();
        due("without a plateau", x.image(0), 0);
        due("image 4", x.image(4), -1);
        due("image -1", x.image(-1), -1);
        tellPlateau(x, "plateau 2 1;person 0 3 1");
        hours(x, 4);
        due("the hour", x.image(3), 4);
        due("and one more", x.image(2), 4);
        hours(x, 1);
        due("made anew", x.image(3), 5);
        hours(x, 1);
        due("the newer one", x.back(3), 5);
        due("the older one", x.back(2), 4);
    }

    private static void back() {
        promise = 36;
        WhimWind x = new WhimWind();
        x.image(1);
        due("never made", x.back(0), -1);
        due("image 4", x.back(4), -1);
        due("image -1", x.back(-1), -1);
        tellPlateau(x, "plateau 3 2;person 3 2 1;person 5 3 3;mill 4 3;mill 5 5;roof 4 2");
        tellRule(x, "whim 1");
        hours(x, 3);
        x.note(2, 4, 3);
        x.seed(8);
        x.image(0);
        x.force(0);
        x.seed(99);
        x.note(1, 1, 1);
        tellRule(x, "whim 0");
        x.mend(0);
        x.hour();
        x.place(0, 0);
        tellPlateau(x, "plateau 2 1");
        x.feed(7, 7, 7, 7, 7);
        due("back", x.back(0), 3);
        int[] all = {3, 2, 2, 2, 1, 2, -1, 3, 5, 1, 5, 1, 1, 3, 8, 20};
        for (int what = 0; what < 16; what++) {
            due("what " + what, x.count(what), all[what]);
        }
        due("wind", x.wind(4), 3);
        due("cell", x.person(0, 0), 3);
        due("what is noted", x.ruled(1), -1);
        x.note(-1, 0, 0);
        x.note(1, 7, 1);
        x.back(0);
        due("what is noted, of none alone", x.ruled(0), 1);
        due("undo as it was", x.undo(), 2);
        due("hour 2", x.count(7), 2);
        due("again", x.back(0), 3);
        due("acts", x.count(13), 3);
        due("without a plateau", x.back(1), 0);
        due("none", x.hour(), -1);
        due("none", x.count(2), 0);
        due("rules stay", x.count(5), 2);
        due("images stay", x.back(0), 3);
    }
}
