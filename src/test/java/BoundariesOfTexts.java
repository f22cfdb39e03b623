/** Each sentence that names a boundary, of promises 1 to 6: new objects, the TAPE, PLATEAUS and RULES. */
public final class BoundariesOfTexts extends Bench {
    private static final int BLANKS = 0x20202020;

    public static void main(String[] args) {
        newObject();
        newObjectAsked();
        feed();
        feedBytes();
        end();
        endThenFeed();
        plateauNumbers();
        plateauCounts();
        plateauFaults();
        plateauFirstFault();
        plateauLeast();
        plateauAnew();
        ruleNumbers();
        ruleLength();
        ruleClauses();
        ruleDeep();
        ruleItems();
        ruleEnds();
        ruleMisplaced();
        ruleBytes();
        ruleWords();
        plateauBytes();
        ruleAfterFault();
        ruleFull();
        force();
        finish();
    }

    // ---- promise 1

    private static void empty(String what, int want, Call call) {
        leaves(WhimWind::new, what + " of a new object", want, call);
    }

    private static void newObject() {
        promise = 1;
        for (int what = 0; what < 16; what++) {
            int asked = what;
            empty("count " + what, what == 6 ? -1 : 0, x -> x.count(asked));
        }
        for (int k = 0; k < 4; k++) {
            int which = k;
            empty("back " + k, -1, x -> x.back(which));
        }
        empty("end 0", 0, x -> x.end(0));
        empty("end 1", -1, x -> x.end(1));
        empty("plateau", -2 - at(0, 0), x -> x.plateau());
        empty("rule", -2 - at(0, 0), x -> x.rule());
        empty("force none", -1, x -> x.force(-1));
        empty("force 0", -2, x -> x.force(0));
        empty("person", -1, x -> x.person(0, 0));
        empty("mill", -1, x -> x.mill(0, 0));
        empty("roof", -1, x -> x.roof(0, 0));
        empty("wind", -1, x -> x.wind(0));
        empty("hour", -1, x -> x.hour());
        empty("wine", -1, x -> x.wine(0, 1));
        empty("place", -1, x -> x.place(0, 1));
        empty("face", -1, x -> x.face(0, 1));
        empty("mend", -1, x -> x.mend(0));
        empty("undo", -2, x -> x.undo());
        empty("seed 0", 0, x -> x.seed(0));
        empty("seed -1", -1, x -> x.seed(-1));
        empty("note", -2, x -> x.note(0, 0, 0));
        empty("no notes", 0, x -> x.note(-1, 0, 0));
    }

    private static void newObjectAsked() {
        promise = 1;
        for (int what = 0; what < 3; what++) {
            int asked = what;
            empty("ahead", -1, x -> x.ahead(0, 0, asked));
            empty("stand", -1, x -> x.stand(0, 1, asked));
            empty("turn", -1, x -> x.turn(0, 1, asked));
            empty("blown", -3, x -> x.blown(0, 0, asked));
            empty("still", -2, x -> x.still(1, asked));
            empty("rests", -1, x -> x.rests(0, 1, 1, asked));
        }
        for (int what = 0; what < 2; what++) {
            int asked = what;
            empty("lull", -1, x -> x.lull(1, asked));
            empty("harvest", -1, x -> x.harvest(1, asked));
            empty("ruled", -3, x -> x.ruled(asked));
            empty("look", -1, x -> x.look(0, asked));
            empty("notions", -1, x -> x.notions(1, 1, 0, asked));
        }
        empty("ahead, roofs", -1, x -> x.ahead(0, 0, 3));
        empty("whim", -1, x -> x.whim(0));
        empty("storm", -1, x -> x.storm(1));
        empty("takes", -1, x -> x.takes(0, 0, 1, 1));
        empty("pence", -1, x -> x.pence(0, 0));
    }

    // ---- promise 2

    private static WhimWind fullTape() {
        WhimWind x = busyWithoutTape();
        feedText(x, "whim urge - 7" + many(" ", 387));
        return x;
    }

    private static void feed() {
        promise = 2;
        WhimWind x = new WhimWind();
        for (int i = 1; i <= 20; i++) {
            due("feed " + i, x.feed(BLANKS, BLANKS, BLANKS, BLANKS, BLANKS), 20 * i);
        }
        due("420 are more than 400", x.feed(BLANKS, BLANKS, BLANKS, BLANKS, BLANKS), -1);
        leaves(BoundariesOfTexts::fullTape, "feed at 400", -1, y -> y.feed(LEAST, MOST, -1, 0, 1));
        for (int had : new int[] {381, 390, 399}) {
            WhimWind y = fullTape();
            y.end(had);
            due("more than 400 with " + had, y.feed(-1, -1, -1, -1, -1), -1);
            due("none comes", y.count(15), had);
            due("blanks as they were", y.rule(), 2);
        }
        WhimWind z = fullTape();
        z.end(380);
        due("the last that come", z.feed(BLANKS, BLANKS, BLANKS, BLANKS, BLANKS), 400);
        due("a rule of 400", z.rule(), 2);
        due("the last of 400 is wrong", tellRule(z, "whim 1" + many(" ", 393) + "?"), -2 - at(399, 0));
        due("the first of 400 is wrong", tellRule(z, "?whim 1" + many(" ", 393)), -2 - at(0, 0));
    }

    /** Each of the twenty places, and bytes that could be mistaken for blanks, or for the end. */
    private static void feedBytes() {
        promise = 2;
        for (int b : new int[] {0, 1, 9, 10, 13, 31, 33, 127, 128, 160, 200, 255}) {
            for (int place = 6; place < 20; place++) {
                String text = "whim 1" + many(" ", place - 6) + (char) b + many(" ", 19 - place);
                due("byte " + b + " at " + place, tellRule(new WhimWind(), text), -2 - at(place, 0));
            }
        }
        for (int from = 0; from <= 14; from++) {
            String text = many(" ", from) + "whim 1" + many(" ", 14 - from);
            due("a text from " + from + " on", tellRule(new WhimWind(), text), 0);
        }
        WhimWind x = new WhimWind();
        due("numbers below 0", x.feed(LEAST, -1, -2, LEAST, -1), 20);
        due("their highest byte is 128", x.rule(), -2 - at(0, 0));
    }

    // ---- promise 3

    private static void end() {
        promise = 3;
        leaves("as many as it has", 33, x -> x.end(33));
        leaves("one more", -1, x -> x.end(34));
        leaves("the greatest", -1, x -> x.end(MOST));
        leaves("below 0", -1, x -> x.end(-1));
        leaves("the least", -1, x -> x.end(LEAST));
        leaves(Bench::busyWithoutTape, "0 of 0", 0, x -> x.end(0));
        leaves(Bench::busyWithoutTape, "1 of 0", -1, x -> x.end(1));
        leaves(BoundariesOfTexts::fullTape, "400 of 400", 400, x -> x.end(400));
        leaves(BoundariesOfTexts::fullTape, "401 of 400", -1, x -> x.end(401));
        for (int n = 0; n < 33; n++) {
            WhimWind x = busy();
            due("the first " + n, x.end(n), n);
            due("as many", x.count(15), n);
            due("one more is there no more", x.end(n + 1), -1);
        }
    }

    private static void endThenFeed() {
        promise = 3;
        WhimWind x = new WhimWind();
        feedText(x, "whim 1 if 1 = 2");
        x.end(6);
        feedText(x, " - 1;whim 1");
        due("what comes is behind the first ones", x.count(15), 17);
        due("a rule of both", x.rule(), 0);
        tellPlateau(x, "plateau 2 1;person 0 0 1");
        x.force(0);
        due("which is never above 0", x.hour(), 0);
        feedText(x, "whim 1");
        due("none", x.end(0), 0);
        due("a text without bytes", x.rule(), -2 - at(0, 0));
    }

    // ---- promise 4

    private static void plateauTakes(String text, int people) {
        WhimWind x = busyWithoutTape();
        due("plateau of " + text, tellPlateau(x, text), people);
        due("the tape behind it", x.count(15), 0);
    }

    /** At FAULT, all stays, but that the TAPE is empty then. */
    private static void plateauRefuses(String text, int place, int kind) {
        leaves(Bench::busyWithoutTape, "plateau of " + text, -2 - at(place, kind), x -> tellPlateau(x, text));
    }

    /** A NUMBER from least to most between two texts. */
    private static void plateauNumber(String ahead, int least, int most, String behind, int people) {
        int place = ahead.length();
        plateauTakes(ahead + least + behind, people);
        plateauTakes(ahead + most + behind, people);
        if (least > 0) {
            plateauRefuses(ahead + (least - 1) + behind, place, 1);
        }
        plateauRefuses(ahead + (most + 1) + behind, place, 1);
        plateauRefuses(ahead + 99999 + behind, place, 1);
        plateauRefuses(ahead + 100000 + behind, place, 1);
        plateauRefuses(ahead + (4294967296L + least) + behind, place, 1);
        plateauRefuses(ahead + "-1" + behind, place, 0);
        plateauTakes(ahead + String.format("%05d", most) + behind, people);
        plateauRefuses(ahead + String.format("%06d", most) + behind, place, 1);
    }

    private static void plateauNumbers() {
        promise = 4;
        plateauNumber("plateau ", 2, 6, " 1", 0);
        plateauNumber("plateau 2 ", 1, 9, "", 0);
        for (int side = 2; side <= 6; side++) {
            int last = side * side - 1;
            plateauNumber("plateau " + side + " 1;person ", 0, last, " 0 0", 1);
            plateauNumber("plateau " + side + " 1;mill ", 0, last, " 1", 0);
            plateauNumber("plateau " + side + " 1;roof ", 0, last, " 0", 0);
        }
        plateauNumber("plateau 2 1;person 0 ", 0, 20, " 0", 1);
        plateauNumber("plateau 2 1;person 0 0 ", 0, 3, "", 1);
        plateauNumber("plateau 2 1;mill 0 ", 1, 20, "", 0);
        plateauNumber("plateau 2 1;roof 0 ", 0, 40, "", 0);
    }

    private static void plateauCounts() {
        promise = 4;
        for (int n = 0; n <= 6; n++) {
            plateauTakes("plateau 2 1" + many(";person 0 0 0", n), n);
        }
        for (int n = 0; n <= 4; n++) {
            plateauTakes("plateau 2 1" + many(";mill 0 1", n), 0);
            plateauTakes("plateau 2 1" + many(";roof 0 1", n), 0);
        }
        plateauRefuses("plateau 2 1" + many(";person 0 0 0", 6) + "; person 0 0 0", 11 + 78 + 2, 4);
        plateauRefuses("plateau 2 1" + many(";mill 0 1", 4) + "; mill 0 1", 11 + 36 + 2, 4);
        plateauRefuses("plateau 2 1" + many(";roof 0 1", 4) + "; roof 0 1", 11 + 36 + 2, 4);
        plateauTakes(FULL, 6);
        plateauTakes(FULL + many(" ", 400 - FULL.length()), 6);
        plateauTakes(many(" ", 400 - FULL.length()) + FULL, 6);
        for (String more : new String[] {"person 0 0 0", "mill 0 1", "roof 0 0", "plateau 2 1"}) {
            plateauRefuses(FULL + ";" + more, FULL.length() + 1, 4);
        }
        // Forty CLAUSES can't come: of the fifteen that may stand each next one is the seventh, fifth or second.
        plateauRefuses("plateau 2 1" + many(";mill 0 1", 42), 11 + 36 + 1, 4);
    }

    private static void plateauFaults() {
        promise = 4;
        plateauRefuses("", 0, 0);
        plateauRefuses(" ", 1, 0);
        plateauRefuses(many(" ", 400), 400, 0);
        plateauRefuses("plateau", 7, 0);
        plateauRefuses("plateau 2", 9, 0);
        plateauRefuses("plateau 2 ", 10, 0);
        plateauRefuses("plateau 21", 8, 1);
        plateauRefuses("plateau 2 1;", 12, 0);
        plateauRefuses("plateau 2 1; ", 13, 0);
        plateauRefuses("plateau 2 1;person", 18, 0);
        plateauRefuses("plateau 2 1;person 0", 20, 0);
        plateauRefuses("plateau 2 1;person 0 0", 22, 0);
        plateauRefuses("plateau 2 1;person 0 0 0 0", 25, 0);
        plateauRefuses("plateau 2 1;mill 0", 18, 0);
        plateauRefuses("plateau 2 1;mill 0 1 1", 21, 0);
        plateauRefuses("plateau 2 1;roof 0", 18, 0);
        plateauRefuses("plateau 2 1;roof 0 1 1", 21, 0);
        plateauRefuses(";plateau 2 1", 0, 0);
        plateauRefuses("plateau 2 1;whim 1", 12, 0);
        plateauRefuses("plateau 2 1;persons 0 0 0", 12, 0);
        plateauRefuses("plateau 2 1;perso 0 0 0", 12, 0);
        plateauRefuses("plateau 2 1;Person 0 0 0", 12, 0);
        plateauRefuses("plateau 2 1;urge 0 0 0", 12, 0);
        plateauRefuses("plateau 2 1;1", 12, 0);
        plateauRefuses("plateau 2 1 person 0 0 0", 12, 0);
        plateauTakes("plateau2 1;person0 0 0;mill0 1;roof0 0", 1);
        plateauTakes("  plateau  2  1  ;  person  0  0  0  ;  mill  0  1  ", 1);
    }

    /** A PLATEAU that isn't the first CLAUSE, and other CLAUSES ahead of it; the first FAULT along the text. */
    private static void plateauFirstFault() {
        promise = 4;
        plateauRefuses("person 0 0 0", 0, 4);
        plateauRefuses("mill 0 1", 0, 4);
        plateauRefuses(" roof 9 99", 1, 4);
        plateauRefuses("person 0 0 0;plateau 2 1", 0, 4);
        plateauRefuses("plateau 2 1;plateau", 12, 4);
        plateauRefuses("plateau 2 1;mill 0 1;plateau 2 1", 21, 4);
        plateauRefuses("plateau 7 0;plateau 2 1", 8, 1);
        plateauRefuses("plateau 2 1;person 9 0 0" + many(";person 0 0 0", 6), 19, 1);
        plateauRefuses("plateau 2 1;person 3 21 4", 21, 1);
        plateauRefuses("plateau 2 1;roof 0 1?;plateau", 20, 0);
    }

    /** Of one place the least. */
    private static void plateauLeast() {
        promise = 4;
        plateauRefuses("plateau 2 1;person 0 0 0 999999", 25, 0);
        plateauRefuses("plateau 2 1" + many(";person 0 0 0", 6) + ";person 9 99 9", 11 + 78 + 1, 4);
        plateauRefuses("plateau 2 1" + many(";person 0 0 0", 6) + ";persons 0 0 0", 11 + 78 + 1, 0);
        plateauRefuses(FULL + ";whim 1", FULL.length() + 1, 0);
        plateauRefuses(FULL + ";", FULL.length() + 1, 0);
    }

    /** A new one: no NOTES, nothing to be UNDONE; RULES, the RULE IN FORCE, x and IMAGES stay. */
    private static void plateauAnew() {
        promise = 4;
        WhimWind x = busyWithoutTape();
        due("in place of the one there was", tellPlateau(x, FULL), 6);
        int[] all = {6, 9, 6, 4, 4, 2, 0, 0, 0, 0, 0, 0, 0, 0, 9, 0};
        for (int what = 0; what < all.length; what++) {
            due("count " + what, x.count(what), all[what]);
        }
        int[] is = {35, 20, 3, 0, 0, 99};
        for (int p = 0; p < 6; p++) {
            for (int what = 0; what < is.length; what++) {
                due("person " + p + ", " + what, x.person(p, what), is[what]);
            }
        }
        for (int i = 0; i < 4; i++) {
            due("nothing is ground", x.mill(i, 2), 0);
            due("no roof is off", x.roof(i, 2), 0);
        }
        for (int cell = 0; cell < 36; cell++) {
            due("no wind in " + cell, x.wind(cell), 0);
        }
        due("nothing can be undone", x.undo(), -2);
        due("images stay", x.back(1), 2);
        due("of the one there was", x.count(0), 3);
        due("a fault behind people, mills and roofs", tellPlateau(x, FULL + "?"), -2 - at(FULL.length(), 0));
        due("then nobody", tellPlateau(x, "plateau 2 1"), 0);
        for (int what = 2; what < 5; what++) {
            due("nor mills, nor roofs, count " + what, x.count(what), 0);
        }
        WhimWind y = on("plateau 2 1");
        due("nobody", y.count(2), 0);
        due("an hour of nobody", y.hour(), 0);
    }

    // ---- promise 5

    private static void ruleTakes(String text) {
        WhimWind x = busyWithoutTape();
        due("rule of " + text, tellRule(x, text), 2);
        due("the tape behind it", x.count(15), 0);
        due("rules", x.count(5), 3);
        due("the rule in force", x.count(6), 0);
    }

    private static void ruleRefuses(String text, int place, int kind) {
        leaves(Bench::busyWithoutTape, "rule of " + text, -2 - at(place, kind), x -> tellRule(x, text));
    }

    private static void ruleNumbers() {
        promise = 5;
        for (String number : new String[] {"0", "00000", "00001", "9", "99999"}) {
            ruleTakes("whim " + number);
            ruleTakes("whim 1 if " + number + "=" + number);
        }
        for (String number : new String[] {"000000", "000001", "100000", "4294967297", "18446744073709551617"}) {
            ruleRefuses("whim " + number, 5, 1);
            ruleRefuses("whim 1 if " + number + "=1", 10, 1);
            ruleRefuses("whim 1 if 1=" + number, 12, 1);
            ruleRefuses("whim 1 " + number, 7, 0);
        }
    }

    private static void ruleLength() {
        promise = 5;
        ruleTakes("whim 1" + many(" ", 394));
        ruleTakes(many(" ", 394) + "whim 1");
        ruleTakes("whim 1;" + many(" ", 387) + "whim 1");
        ruleRefuses("", 0, 0);
        ruleRefuses(many(" ", 400), 400, 0);
        ruleRefuses("whim" + many(" ", 396), 400, 0);
        ruleRefuses("whim 1" + many(" ", 393) + ";", 400, 0);
        ruleRefuses("whim 1 if urge >" + many(" ", 384), 400, 0);
        ruleRefuses(many(" ", 396) + "whim", 400, 0);
        ruleRefuses(many("a", 400), 0, 0);
        ruleRefuses(many("1", 400), 0, 0);
        ruleRefuses("whim " + many("9", 395), 5, 1);
    }

    private static void ruleClauses() {
        promise = 5;
        String twelve = "whim 1" + many(";whim 1", 11);
        ruleTakes(twelve);
        ruleTakes("whim 1 if 1=1" + many(";whim 1 if 1=1", 11));
        ruleRefuses(twelve + ";whim 1", twelve.length() + 1, 4);
        ruleRefuses(twelve + "; whim 1", twelve.length() + 2, 4);
        ruleRefuses(twelve + ";whim 1;whim 1", twelve.length() + 1, 4);
        ruleRefuses(twelve + ";whims", twelve.length() + 1, 0);
        ruleRefuses(twelve + ";1", twelve.length() + 1, 0);
        ruleRefuses(twelve + ";", twelve.length() + 1, 0);
    }

    private static void ruleDeep() {
        promise = 5;
        String[] ten = {many("[", 10), many("not ", 10), many("not[", 5), many("[not ", 5)};
        String[] closing = {many("]", 10), "", many("]", 5), many("]", 5)};
        for (int i = 0; i < ten.length; i++) {
            String whole = ten[i] + "1=1" + closing[i];
            int place = 10 + ten[i].length();
            ruleTakes("whim 1 if " + whole);
            ruleTakes("whim 1 if " + whole + " and " + whole);
            ruleTakes("whim 1 if " + whole + " or " + whole);
            ruleTakes("whim 1 if " + whole + ";whim 1 if " + whole);
            ruleRefuses("whim 1 if " + ten[i] + " [1=1]" + closing[i], place + 1, 2);
            ruleRefuses("whim 1 if " + ten[i] + " not 1=1" + closing[i], place + 1, 2);
            ruleRefuses("whim 1 if " + whole + " and " + ten[i] + "[", 10 + whole.length() + 5 + ten[i].length(), 2);
            // Where no bracket and no not can stand, that is the least of one place.
            ruleRefuses("whim 1 if " + ten[i] + "1 [", place + 2, 0);
            ruleRefuses("whim 1 if " + ten[i] + "1=not", place + 2, 0);
            ruleRefuses("whim 1 if " + ten[i] + "nots", place, 0);
        }
        ruleTakes("whim 1 if " + many("[", 9) + "not 1=1 and not 1=1" + many("]", 9));
        ruleRefuses("whim 1 if " + many("[", 9) + "not 1=1 and not not 1=1", 10 + 9 + 12 + 4, 2);
        ruleRefuses("whim 1 if " + many("[", 10) + "1=1 and [", 10 + 10 + 8, 2);
        ruleTakes("whim 1 if " + many("[", 10) + "1=1] and [1=1" + many("]", 10));
        ruleRefuses("whim 1 if " + many("[", 10) + "1=1] and [[1=1", 10 + 10 + 10, 2);
    }

    /** Sixty VALUES and FACTS, together: of one SUM, of a FACT, of several CLAUSES. */
    private static void ruleItems() {
        promise = 5;
        String sixty = "whim 1" + many("+1", 59);
        int behind = sixty.length();
        ruleTakes(sixty);
        ruleTakes("whim urge" + many("%urge", 59));
        ruleRefuses(sixty + "+1", behind + 1, 3);
        ruleRefuses(sixty + "+ urge", behind + 2, 3);
        ruleRefuses(sixty + " if 1=1", behind + 4, 3);
        ruleRefuses(sixty + "+100000", behind + 1, 1);
        ruleRefuses(sixty + "+urges", behind + 1, 0);
        ruleRefuses(sixty + "+", behind + 1, 0);
        ruleRefuses(sixty + "=1", behind, 0);
        ruleTakes("whim 1 if 1" + many("*1", 56) + ">1");
        ruleRefuses("whim 1 if 1" + many("*1", 57) + ">1", 11 + 114 + 1, 3);
        ruleRefuses("whim 1 if 1" + many("*1", 58) + " >= 1", 11 + 116 + 1, 3);
        ruleRefuses("whim 1 if 1" + many("*1", 59), 11 + 116 + 1, 3);
        String thirty = "whim 1" + many("-1", 29);
        ruleTakes(thirty + ";" + thirty);
        ruleRefuses(thirty + ";" + thirty + "-1", 64 + 65 + 1, 3);
        ruleRefuses(thirty + ";" + thirty + ";whim 1", 64 + 65 + 6, 3);
        String facts = "whim 1 if 1=1" + many(" and 1=1", 18);
        ruleTakes(facts + ";whim 1+1");
        ruleRefuses(facts + ";whim 1+1+1", facts.length() + 10, 3);
        ruleRefuses(facts + ";whim 1 if 1=1", facts.length() + 12, 3);
        ruleRefuses(facts + ";whim 1+1 if 1=1", facts.length() + 13, 3);
    }

    private static void ruleEnds() {
        promise = 5;
        ruleRefuses("whim", 4, 0);
        ruleRefuses("whim 1 +", 8, 0);
        ruleRefuses("whim 1 if", 9, 0);
        ruleRefuses("whim 1 if not", 13, 0);
        ruleRefuses("whim 1 if [", 11, 0);
        ruleRefuses("whim 1 if 1", 11, 0);
        ruleRefuses("whim 1 if 1 <", 13, 0);
        ruleRefuses("whim 1 if 1=1 and", 17, 0);
        ruleRefuses("whim 1 if 1=1 or", 16, 0);
        ruleRefuses("whim 1 if [1=1", 14, 0);
        ruleRefuses("whim 1;", 7, 0);
    }

    private static void ruleMisplaced() {
        promise = 5;
        ruleRefuses("whim 1 if []", 11, 0);
        ruleRefuses("whim 1 if 1=1]", 13, 0);
        ruleRefuses("whim 1 if [1=1;whim 1", 14, 0);
        ruleRefuses("whim 1 if [1=1]]", 15, 0);
        ruleRefuses("whim 1 if 1 = = 1", 14, 0);
        ruleRefuses("whim 1 if 1 < = 1", 14, 0);
        ruleRefuses("whim 1 if 1 => 1", 13, 0);
        ruleRefuses("whim 1 if 1 <> 1", 13, 0);
        ruleRefuses("whim 1 if 1 == 1", 13, 0);
        ruleRefuses("whim urge urge", 10, 0);
        ruleRefuses("whim 1 + + 1", 9, 0);
        ruleRefuses("whim +1", 5, 0);
        ruleRefuses("whim 1;;whim 1", 7, 0);
        ruleRefuses("whim catch", 5, 0);
        ruleRefuses("whim Urge", 5, 0);
        ruleRefuses("whim urge1", 9, 0);
        ruleRefuses("whim 1 iff 1=1", 7, 0);
        ruleRefuses("whim 1 if not[1=1]not 1=1", 18, 0);
        for (String word : new String[] {"person", "urge", "steady", "faces", "row", "column", "wind", "acted", "since",
            "ground", "off", "hour"}) {
            ruleTakes("whim " + word + " if " + word + " = " + word);
            ruleRefuses("whim " + word + "s", 5, 0);
            ruleRefuses("whim " + word.substring(1), 5, 0);
            ruleRefuses("whim " + word.substring(0, word.length() - 1), 5, 0);
        }
        for (String word : new String[] {"if", "and", "or", "not", "whim", "plateau", "mill", "roof", "x"}) {
            ruleRefuses("whim " + word, 5, 0);
            ruleRefuses("whim 1 if 1 > " + word, 14, 0);
        }
    }

    private static final String DIGITS = "0123456789";

    /** The answer to a RULE of the text with a byte behind it: sound, at FAULT at its end, or at the byte. */
    private static void ruleByte(String text, int b, String sound, String open) {
        boolean isSound = sound.indexOf(b) >= 0;
        int place = open.indexOf(b) >= 0 ? text.length() + 1 : text.length();
        due(text + " and byte " + b, tellRule(new WhimWind(), text + (char) b), isSound ? 0 : -2 - at(place, 0));
    }

    /** Every byte in every kind of place of a RULE. */
    private static void ruleBytes() {
        promise = 5;
        for (int b = 0; b < 256; b++) {
            ruleByte("", b, "", " ");
            ruleByte("whim ", b, DIGITS, " ");
            ruleByte("whim 1", b, DIGITS + " ", "+-*/%;");
            ruleByte("whim 1 ", b, " ", "+-*/%;");
            ruleByte("whim urge+", b, DIGITS, " ");
            ruleByte("whim 1 if ", b, "", DIGITS + " [");
            ruleByte("whim 1 if 1", b, "", DIGITS + " +-*/%<=>");
            ruleByte("whim 1 if 1<", b, DIGITS, " =");
            ruleByte("whim 1 if 1=", b, DIGITS, " ");
            ruleByte("whim 1 if 1>=", b, DIGITS, " ");
            ruleByte("whim 1 if 1=1", b, DIGITS + " ", "+-*/%;");
            ruleByte("whim 1 if [1=1]", b, " ", ";");
            ruleByte("whim 1 if [[1=1]", b, "]", " ");
            ruleByte("whim 1;", b, "", " ");
        }
    }

    /** Every word that is known somewhere, and one that is nowhere, in every kind of place of a RULE. */
    private static void ruleWords() {
        promise = 5;
        String[] words = {"person", "urge", "steady", "faces", "row", "column", "wind", "acted", "since", "ground", "off",
            "hour", "if", "and", "or", "not", "whim", "plateau", "mill", "roof", "x", "breeze"};
        for (int i = 0; i < words.length; i++) {
            String word = words[i];
            if (!word.equals("whim")) {
                ruleRefuses(word + " 1", 0, 0);
                ruleRefuses("whim 1;" + word + " 1", 7, 0);
            }
            if (!word.equals("if")) {
                ruleRefuses("whim 1 " + word + " 1", 7, 0);
            }
            if (!word.equals("and") && !word.equals("or")) {
                ruleRefuses("whim 1 if 1=1 " + word + " 1=1", 14, 0);
                ruleRefuses("whim 1 if [1=1] " + word + " 1=1", 16, 0);
            }
            ruleRefuses("whim 1 if 1 " + word + " 1", 12, 0);
            if (i >= 12) {
                ruleRefuses("whim " + word + " 1", 5, 0);
                ruleRefuses("whim 1 if 1=" + word + " 1", 12, 0);
            }
            if (i >= 12 && !word.equals("not")) {
                ruleRefuses("whim 1 if " + word + " 1=1", 10, 0);
            }
        }
    }

    /** Every byte in every kind of place of a PLATEAU. */
    private static void plateauBytes() {
        promise = 4;
        for (int b = 0; b < 256; b++) {
            boolean isDigit = DIGITS.indexOf(b) >= 0;
            int kind = isDigit ? 1 : 0;
            int side = b == ' ' || b >= '2' && b <= '6' ? at(9, 0) : at(8, kind);
            due("for a side, byte " + b, tellPlateau(new WhimWind(), "plateau " + (char) b), -2 - side);
            int behind = b == ';' ? at(12, 0) : isDigit ? at(10, 1) : at(11, 0);
            due("behind a catch, byte " + b, tellPlateau(new WhimWind(), "plateau 2 1" + (char) b),
                b == ' ' ? 0 : -2 - behind);
            int clause = b == ' ' ? at(13, 0) : at(12, 0);
            due("for a clause, byte " + b, tellPlateau(new WhimWind(), "plateau 2 1;" + (char) b), -2 - clause);
            int first = b == ' ' ? at(1, 0) : at(0, 0);
            due("for all, byte " + b, tellPlateau(new WhimWind(), "" + (char) b), -2 - first);
        }
        for (String word : new String[] {"person", "plateau", "mill", "roof", "whim", "urge", "x", "breeze"}) {
            plateauRefuses("plateau " + word + " 1", 8, 0);
            plateauRefuses("plateau 2 " + word, 10, 0);
            plateauRefuses("plateau 2 1 " + word + " 0 0 0", 12, 0);
        }
    }

    /** What a text at FAULT had told is nothing to the next one, whose number it doesn't take. */
    private static void ruleAfterFault() {
        promise = 5;
        String deep = "whim 1 if " + many("[", 10) + "1=1" + many("]", 10);
        String[] faulty = {"whim 1 if " + many("[", 10) + "1=1?", "whim 1 if " + many("not ", 10) + "1=?",
            "whim 0" + many("-1", 59) + "?", "whim 0" + many(";whim 0", 11) + "?", "whim 0;whim 0;whim ?",
            "whim 1 if not 1=1 and ?", "whim 0 if 1=1 or [1=1 and 1+1*?"};
        String[] sound = {"whim 1", "whim 1 if 1=1", deep, "whim 1" + many("+1", 59), "whim 1" + many(";whim 0", 11)};
        for (String first : faulty) {
            for (String then : sound) {
                WhimWind x = on("plateau 2 1;person 0 0 1");
                due("at fault: " + first, tellRule(x, first) < -2 ? 1 : 0, 1);
                due(then + " behind " + first, tellRule(x, then), 0);
                x.force(0);
                due(then + " as it says, behind " + first, x.hour(), 1);
            }
        }
    }

    private static WhimWind sixRules() {
        WhimWind x = busyWithoutTape();
        for (int r = 2; r < 6; r++) {
            due("rule " + r, tellRule(x, "whim urge - " + r), r);
        }
        feedText(x, "plateau 2 2;person 1 1 1");
        return x;
    }

    private static void ruleFull() {
        promise = 5;
        leaves(BoundariesOfTexts::sixRules, "a seventh", -1, x -> x.rule());
        WhimWind x = sixRules();
        x.end(0);
        feedText(x, "whim 1");
        due("a seventh that is sound", x.rule(), -1);
        due("there are six", x.count(5), 6);
        due("the tape stays", x.count(15), 6);
        due("and goes on", x.feed(0, 0, 0, 0, 0), 26);
        WhimWind y = new WhimWind();
        due("at fault", tellRule(y, "whim"), -2 - at(4, 0));
        due("that was no rule", y.count(5), 0);
        due("the first is 0 still", tellRule(y, "whim 1"), 0);
        due("none is in force by that", y.count(6), -1);
    }

    // ---- promise 6

    private static void force() {
        promise = 6;
        leaves("none such", -2, x -> x.force(2));
        leaves("below none", -2, x -> x.force(-2));
        leaves("the least", -2, x -> x.force(LEAST));
        leaves("the greatest", -2, x -> x.force(MOST));
        leaves("the one that is", 0, x -> x.force(0));
        WhimWind x = sixRules();
        due("the last one", x.force(5), 0);
        due("is in force", x.count(6), 5);
        due("there is no seventh", x.force(6), -2);
        due("as it was", x.count(6), 5);
        due("none", x.force(-1), 5);
        due("is told so", x.count(6), -1);
        due("none again", x.force(-1), -1);
        due("the first one", x.force(0), -1);
        due("that is no act", x.count(13), 6);
        due("acts undone", x.undo(), 5);
        due("leave it", x.count(6), 0);
    }
}
