/** Each sentence that names a boundary, of promises 17 to 36: questions, NOTES, x, counts and IMAGES. */
public final class BoundariesOfQuestions extends Bench {
    /** One, before whom there are a MILL and two ROOFS. */
    private static final String ROW = "plateau 2 9;person 0 0 1;mill 1 20;roof 1 0;roof 1 40";
    private static final String SIX = "plateau 2 9" + many(";person 0 0 1", 6);

    /** A call with one of its numbers left open. */
    interface Asked {
        int on(WhimWind x, int number);
    }

    public static void main(String[] args) {
        ahead();
        whim();
        storm();
        stand();
        turn();
        betterWays();
        takes();
        lastPerson();
        blown();
        still();
        lull();
        harvest();
        rests();
        restsOfWind();
        pence();
        penceLeft();
        note();
        ruled();
        look();
        seed();
        notions();
        notionsDrawn();
        count();
        image();
        back();
        finish();
    }

    /** From least to most a number is taken, others are refused, and nothing ever changes. */
    private static void range(String name, int least, int most, int refusal, Asked asked) {
        for (int none : new int[] {least - 1, most + 1, LEAST, MOST}) {
            leaves(name + " " + none, refusal, x -> asked.on(x, none));
        }
        for (int is : new int[] {least, most}) {
            int answer = asked.on(busy(), is);
            due(name + " " + is + " is refused", answer == refusal ? 1 : 0, 0);
            leaves(name + " " + is, answer, x -> asked.on(x, is));
        }
    }

    // ---- promises 17 to 19

    private static void ahead() {
        promise = 17;
        range("person", 0, 2, -1, (x, p) -> x.ahead(p, 1, 0));
        range("mill", 0, 1, -1, (x, m) -> x.ahead(m, 1, 1));
        range("cell", 0, 8, -1, (x, cell) -> x.ahead(cell, 1, 2));
        for (int what = 0; what < 4; what++) {
            int asked = what;
            range("hours of " + what, 0, 100, -1, (x, n) -> x.ahead(0, n, asked));
        }
        range("what", 0, 3, -1, (x, what) -> x.ahead(0, 1, what));
        for (int number : new int[] {0, 1, 4, -1, LEAST, MOST}) {
            leaves("roofs are of no number", 1, x -> x.ahead(number, 0, 3));
        }
        WhimWind full = on(FULL);
        due("the last person", full.ahead(5, 3, 0), 3);
        due("no seventh", full.ahead(6, 3, 0), -1);
        due("the last mill", full.ahead(3, 3, 1), 0);
        due("no fifth", full.ahead(4, 3, 1), -1);
        due("the last cell", full.ahead(35, 3, 2), 0);
        due("none behind it", full.ahead(36, 3, 2), -1);
        WhimWind x = by(ROW, "whim 1 if hour = 99");
        due("urge now", x.ahead(0, 0, 0), 0);
        due("urge in 1", x.ahead(0, 1, 0), 1);
        due("urge in 99", x.ahead(0, 99, 0), 99);
        due("urge in 100", x.ahead(0, 100, 0), 0);
        due("ground in 99", x.ahead(0, 99, 1), 0);
        due("ground in 100", x.ahead(0, 100, 1), 20);
        due("wind in 99", x.ahead(1, 99, 2), 0);
        due("wind in 100", x.ahead(1, 100, 2), 99);
        due("roofs in 99", x.ahead(0, 99, 3), 0);
        due("roofs in 100", x.ahead(0, 100, 3), 3);
        WhimWind bare = on("plateau 2 1");
        due("nobody", bare.ahead(0, 0, 0), -1);
        due("no mill", bare.ahead(0, 0, 1), -1);
        due("a cell", bare.ahead(3, 100, 2), 0);
        due("no roofs, as bits", bare.ahead(0, 100, 3), 0);
    }

    private static void whim() {
        promise = 18;
        range("person", 0, 2, -1, (x, p) -> x.whim(p));
        due("the last person", on(FULL).whim(5), 20);
        due("no seventh", on(FULL).whim(6), -1);
        due("this hour", by(ROW, "whim 1 if hour = 0").whim(0), 0);
        due("the hundredth", by(ROW, "whim 1 if hour = 99").whim(0), 99);
        due("in none of these", by(ROW, "whim 1 if hour = 100").whim(0), -2);
        WhimWind x = by(ROW, "whim 1 if hour = 107");
        hours(x, 7);
        due("none of 7 to 106", x.whim(0), -2);
        x.hour();
        due("the hundredth from 8 on", x.whim(0), 107);
        due("nobody", on("plateau 2 1").whim(0), -1);
    }

    private static void storm() {
        promise = 19;
        range("people", 1, 6, -1, (x, k) -> x.storm(k));
        WhimWind six = by(SIX, "whim hour + 1 - person if hour < 7;whim 0");
        for (int k = 1; k <= 6; k++) {
            due(k + " or more", six.storm(k), k - 1);
        }
        WhimWind five = by(SIX, "whim 1 if hour = 3 and person < 5");
        due("five", five.storm(5), 3);
        due("one or more of five", five.storm(1), 3);
        due("not six", five.storm(6), -2);
        due("six in the hundredth", by(SIX, "whim 1 if hour = 99").storm(6), 99);
        due("in none of these", by(SIX, "whim 1 if hour = 100").storm(1), -2);
        WhimWind x = by(SIX, "whim 1 if hour = 107");
        hours(x, 7);
        due("none of 7 to 106", x.storm(6), -2);
        x.hour();
        due("the hundredth from 8 on", x.storm(6), 107);
        due("nobody", on("plateau 2 1").storm(1), -2);
    }

    // ---- promises 20 to 22

    private static void stand() {
        promise = 20;
        range("person", 0, 2, -1, (x, p) -> x.stand(p, 1, 0));
        range("hours", 1, 60, -1, (x, n) -> x.stand(0, n, 0));
        range("what", 0, 2, -1, (x, what) -> x.stand(0, 1, what));
        WhimWind x = by("plateau 2 9;person 2 0 1;mill 1 20", "whim 1 if hour = 59");
        due("in 59 nowhere is better", x.stand(0, 59, 0), 0);
        due("nothing is ground", x.stand(0, 59, 2), 0);
        due("in 60 there is wind", x.stand(0, 60, 2), 20);
        due("from the first cell", x.stand(0, 60, 0), 0);
        WhimWind y = by("plateau 6 9;person 0 0 3;mill 34 20", "whim 1");
        due("from the last cell", y.stand(0, 1, 0), 35);
        due("one", y.stand(0, 1, 2), 1);
        due("of several the least", on("plateau 6 9;person 35 0 3").stand(0, 60, 0), 0);
        due("the last person", on(FULL).stand(5, 1, 0), 0);
        due("no seventh", on(FULL).stand(6, 1, 0), -1);
        due("nobody", on("plateau 2 1").stand(0, 1, 0), -1);
    }

    private static void turn() {
        promise = 21;
        range("person", 0, 2, -1, (x, p) -> x.turn(p, 1, 0));
        range("hours", 1, 60, -1, (x, n) -> x.turn(0, n, 0));
        range("what", 0, 2, -1, (x, what) -> x.turn(0, 1, what));
        int[] before = {1, 5, 7, 3};
        for (int way = 0; way < 4; way++) {
            WhimWind x = by("plateau 3 9;person 4 0 " + (way + 1) % 4 + ";mill " + before[way] + " 20",
                "whim 1 if hour = 59");
            due("in 59 no way is better", x.turn(0, 59, 0), 0);
            due("nothing is ground", x.turn(0, 59, 2), 0);
            due("in 60", x.turn(0, 60, 0), way);
            due("so much", x.turn(0, 60, 2), 20);
        }
        due("of several the least", on("plateau 3 9;person 4 0 3").turn(0, 60, 0), 0);
        due("no fifth way", by("plateau 3 9;person 4 0 3;mill 1 20", "whim faces - 3").turn(0, 60, 2), 0);
        due("the last person", on(FULL).turn(5, 1, 0), 0);
        due("no seventh", on(FULL).turn(6, 1, 0), -1);
        due("nobody", on("plateau 2 1").turn(0, 1, 0), -1);
    }

    /** Fewer ROOFS ahead of more GROUND; of as many more GROUND; of as much the least. */
    private static void betterWays() {
        promise = 21;
        WhimWind x = by("plateau 3 9;person 4 0 0;roof 1 0;roof 7 0;mill 1 20;mill 7 20;mill 7 20", "whim 1");
        due("no roof", x.turn(0, 1, 0), 1);
        due("none is off", x.turn(0, 1, 1), 0);
        due("nothing is ground for that", x.turn(0, 1, 2), 0);
        x.face(0, 2);
        x.hour();
        x.face(0, 0);
        due("what is off already makes no odds", x.turn(0, 1, 0), 2);
        due("one is off", x.turn(0, 1, 1), 1);
        due("all that is ground then", x.turn(0, 1, 2), 2 + 2);
        WhimWind y = by("plateau 3 9;person 4 0 0" + many(";roof 1 0;roof 3 0", 2), "whim 1");
        due("all four ways", y.turn(0, 1, 1), 0);
        y.hour();
        y.face(0, 3);
        y.hour();
        due("all four roofs are off", y.turn(0, 1, 1), 4);
        due("and no way is better", y.turn(0, 1, 0), 0);
    }

    private static void takes() {
        promise = 22;
        range("person", 0, 2, -1, (x, p) -> x.takes(p, 0, 1, 1));
        range("mill", 0, 1, -1, (x, m) -> x.takes(0, m, 1, 1));
        range("amount", 1, 9999, -1, (x, amount) -> x.takes(0, 0, amount, 1));
        range("hours", 1, 60, -1, (x, n) -> x.takes(0, 0, 1, n));
        due("nothing more", by(ROW, "whim 1").takes(0, 0, 1, 1), 0);
        due("1 more", by(ROW, "whim 1").takes(0, 0, 2, 1), 1);
        due("just as much as it can", by(ROW, "whim 1").takes(0, 0, 20, 1), 19);
        due("more than it can", by(ROW, "whim 1").takes(0, 0, 21, 1), -2);
        due("40 more", by(ROW, "whim 1 if urge > 40").takes(0, 0, 1, 1), 40);
        due("41 more are too much", by(ROW, "whim 1 if urge > 41").takes(0, 0, 1, 1), -2);
        due("in 59 hours", by(ROW, "whim 1 if hour = 59").takes(0, 0, 1, 59), -2);
        due("in 60 hours", by(ROW, "whim 1 if hour = 59").takes(0, 0, 1, 60), 0);
        WhimWind x = by(ROW, "whim 1 if urge > 98");
        wines(x, 0, 57);
        due("57 and 41", x.takes(0, 0, 1, 1), -2);
        x.wine(0, 1);
        due("58 and 40", x.takes(0, 0, 1, 1), 40);
        wines(x, 0, 41);
        due("99 at most", x.takes(0, 0, 1, 1), 0);
        WhimWind y = by(ROW, "whim 1 if urge > 99");
        wines(y, 0, 99);
        due("never 100", y.takes(0, 0, 1, 1), -2);
        due("the last ones", on(FULL).takes(5, 3, 1, 1), -2);
        due("no seventh", on(FULL).takes(6, 3, 1, 1), -1);
        due("no fifth", on(FULL).takes(5, 4, 1, 1), -1);
        due("nobody", on("plateau 2 1;mill 0 1").takes(0, 0, 1, 1), -1);
        due("no mill", on("plateau 2 1;person 0 0 0").takes(0, 0, 1, 1), -1);
    }

    /** It is the PERSON asked about whose CELL, way or URGE is another, the last one too. */
    private static void lastPerson() {
        WhimWind x = by("plateau 3 9" + many(";person 4 0 0", 5) + ";person 4 0 3;mill 7 20", "whim 1 if person = 5");
        promise = 20;
        due("the last one's cell", x.stand(5, 1, 0), 8);
        due("so much", x.stand(5, 1, 2), 1);
        due("another's", x.stand(4, 1, 0), 0);
        due("so much", x.stand(4, 1, 2), 0);
        promise = 21;
        due("the last one's way", x.turn(5, 1, 0), 2);
        due("so much", x.turn(5, 1, 2), 1);
        due("another's", x.turn(0, 1, 0), 0);
        due("so much", x.turn(0, 1, 2), 0);
        promise = 22;
        x.face(5, 2);
        due("the last one's urge", x.takes(5, 0, 3, 1), 2);
        due("another's", x.takes(0, 0, 3, 1), -2);
        promise = 24;
        due("whoever gives way or not", x.still(1, 0), -1);
    }

    // ---- promises 23 to 27

    private static void blown() {
        promise = 23;
        range("cell", 0, 8, -3, (x, cell) -> x.blown(cell, 0, 0));
        range("wind", 0, 999, -3, (x, wind) -> x.blown(4, wind, 0));
        range("what", 0, 2, -3, (x, what) -> x.blown(4, 0, what));
        WhimWind x = on(SIX);
        due("without urges: all sets", x.blown(1, 0, 0), 64);
        due("nobody is the least", x.blown(1, 0, 1), 0);
        due("none is in all", x.blown(1, 0, 2), 0);
        due("no wind of theirs", x.blown(1, 1, 0), 0);
        for (int p = 0; p < 6; p++) {
            wines(x, p, 99);
        }
        due("all that there can be", x.blown(1, 594, 0), 1);
        due("by all", x.blown(1, 594, 1), 63);
        due("in all", x.blown(1, 594, 2), 63);
        due("more", x.blown(1, 595, 0), 0);
        due("there is none", x.blown(1, 595, 1), -2);
        due("none in all", x.blown(1, 595, 2), 0);
        due("999", x.blown(1, 999, 1), -2);
        due("one of six", x.blown(1, 99, 0), 6);
        due("the least", x.blown(1, 99, 1), 1);
        due("five of six", x.blown(1, 495, 0), 6);
        due("the least", x.blown(1, 495, 1), 31);
        due("nobody", x.blown(1, 0, 0), 1);
        due("where they stand", x.blown(0, 0, 0), 64);
        WhimWind y = by("plateau 3 9;person 3 0 1", "whim 1");
        y.wine(0, 1);
        due("1 before them", y.blown(4, 1, 1), 1);
        due("till it is 0", y.blown(5, 0, 0), 2);
        y.wine(0, 1);
        due("1 behind that", y.blown(5, 1, 1), 1);
        WhimWind bare = on("plateau 2 1");
        due("nobody there", bare.blown(3, 0, 0), 1);
        due("by nobody", bare.blown(3, 0, 1), 0);
        due("in all of nobody", bare.blown(3, 0, 2), 0);
        due("no wind by nobody", bare.blown(3, 1, 1), -2);
        due("no such cell", bare.blown(4, 0, 0), -3);
    }

    private static void still() {
        promise = 24;
        range("hours", 1, 60, -2, (x, n) -> x.still(n, 0));
        range("what", 0, 2, -2, (x, what) -> x.still(1, what));
        WhimWind x = by(ROW, "whim 1 if hour = 59");
        due("in 59 nobody", x.still(59, 0), -1);
        due("in 60 the one", x.still(60, 0), 0);
        due("no roof then", x.still(60, 1), 0);
        due("nothing is ground", x.still(60, 2), 0);
        due("in 1 nobody", x.still(1, 0), -1);
        WhimWind six = by(SIX + ";roof 1 0", "whim 1 if person = 5");
        due("the last one", six.still(1, 0), 5);
        WhimWind two = by(SIX + ";roof 1 0", "whim 1 if person > 3");
        due("of several nobody", two.still(1, 0), -1);
        due("one roof", two.still(1, 1), 1);
        WhimWind less = by(SIX + ";roof 1 1", "whim 1 if person > 3");
        due("then the least", less.still(1, 0), 4);
        due("none", less.still(1, 1), 0);
        WhimWind bare = on("plateau 2 1");
        due("nobody there", bare.still(60, 0), -1);
        due("no roofs", bare.still(60, 1), 0);
        due("nothing", bare.still(60, 2), 0);
    }

    private static void lull() {
        promise = 25;
        range("hours", 1, 100, -1, (x, n) -> x.lull(n, 0));
        range("what", 0, 1, -1, (x, what) -> x.lull(1, what));
        WhimWind x = by(ROW, "whim 1 if hour = 0 or hour = 99");
        due("in 1", x.lull(1, 0), 0);
        due("there is none", x.lull(1, 1), -2);
        due("in 2", x.lull(2, 0), 1);
        due("the second", x.lull(2, 1), 1);
        due("in 99", x.lull(99, 0), 98);
        due("in 100", x.lull(100, 0), 98);
        due("from 1 on", x.lull(100, 1), 1);
        due("all 100", by(ROW, "whim 0").lull(100, 0), 100);
        due("from 0 on", by(ROW, "whim 0").lull(100, 1), 0);
        WhimWind never = by(ROW, "whim 1");
        due("none of 100", never.lull(100, 0), 0);
        due("there is none", never.lull(100, 1), -2);
        hours(x, 1);
        due("this one the first", x.lull(100, 1), 1);
        due("a hundred from 1 on", x.lull(100, 0), 98);
        hours(x, 98);
        due("from 99 on", x.lull(100, 0), 99);
        due("the next", x.lull(100, 1), 100);
        WhimWind even = by(ROW, "whim hour % 3 - 1");
        due("two of six", even.lull(6, 0), 2);
        due("of two rows the first", even.lull(6, 1), 0);
        due("puffs off the plateau are no wind", by("plateau 2 1;person 0 0 0", "whim 1").lull(100, 0), 100);
    }

    private static void harvest() {
        promise = 26;
        range("hours", 1, 100, -1, (x, n) -> x.harvest(n, 0));
        range("what", 0, 1, -1, (x, what) -> x.harvest(1, what));
        WhimWind x = by(ROW, "whim 1 if hour = 99");
        due("in 99 the first", x.harvest(99, 0), 0);
        due("nothing", x.harvest(99, 1), 0);
        due("in 100 the last", x.harvest(100, 0), 99);
        due("so much", x.harvest(100, 1), 99);
        WhimWind y = by(ROW, "whim 1");
        due("of several the first", y.harvest(100, 0), 0);
        due("so much", y.harvest(100, 1), 1);
        hours(y, 5);
        due("this one the first", y.harvest(1, 0), 5);
        due("of several the first", y.harvest(100, 0), 5);
        WhimWind six = by(SIX, "whim 1 if hour = 99");
        due("all together", six.harvest(100, 1), 594);
        due("nobody", on("plateau 2 1").harvest(100, 1), 0);
    }

    private static void rests() {
        promise = 27;
        range("one", 0, 2, -1, (x, p) -> x.rests(p, 1, 1, 0));
        range("other", 0, 2, -1, (x, p) -> x.rests(1, p, 1, 0));
        range("hours", 1, 20, -1, (x, n) -> x.rests(0, 1, n, 0));
        range("what", 0, 2, -1, (x, what) -> x.rests(0, 1, 1, what));
        for (int p = 0; p < 3; p++) {
            int same = p;
            leaves("alike", -1, x -> x.rests(same, same, 1, 0));
        }
        WhimWind x = by(SIX, "whim 1 if hour = 19 and person = 4 and faces = 3 or hour = 0 and person = 5 and faces = 2");
        due("in 19 one has but one way", x.rests(5, 4, 19, 0), 4);
        due("of its first", x.rests(5, 4, 19, 1), 2);
        due("of the other any", x.rests(5, 4, 19, 2), 0);
        due("in 20 both have", x.rests(5, 4, 20, 0), 1);
        due("one", x.rests(5, 4, 20, 1), 2);
        due("other", x.rests(5, 4, 20, 2), 3);
        due("others have all", x.rests(0, 1, 20, 0), 16);
        due("of all the first", x.rests(0, 1, 20, 1), 0);
        due("of all the first", x.rests(0, 1, 20, 2), 0);
        due("the last two", on(FULL).rests(5, 4, 1, 0), 16);
        due("no seventh", on(FULL).rests(5, 6, 1, 0), -1);
        due("one alone", on("plateau 2 1;person 0 0 0").rests(0, 1, 1, 0), -1);
        due("one alone with themselves", on("plateau 2 1;person 0 0 0").rests(0, 0, 1, 0), -1);
        WhimWind none = by("plateau 2 1;person 0 9 0;person 1 9 0", "whim 1 if hour = 0;"
            + "whim 1 if person = 0 and [wind > 0 and faces = 1 or wind = 0 and faces = 2];"
            + "whim 1 if person = 1 and [wind > 0 and faces = 2 or wind = 0 and faces = 3]");
        due("none", none.rests(0, 1, 2, 0), 0);
        due("there is none", none.rests(0, 1, 2, 1), -2);
        due("there is none", none.rests(0, 1, 2, 2), -2);
    }

    /** What one has may lie with the other's way: then it is that way, as it is, by which theirs are compared. */
    private static void restsOfWind() {
        promise = 27;
        WhimWind all = by("plateau 2 1;person 0 0 1;person 1 0 3", "whim 1");
        due("each has as much by any way", all.rests(0, 1, 20, 0), 16);
        due("the first", all.rests(0, 1, 20, 1), 0);
        due("the first", all.rests(0, 1, 20, 2), 0);
        // Person 1 has most by way 0, and then there is no wind for person 0, who would have most in it by way 2.
        String rule = "whim 1 if hour = 0;whim 1 if person = 0 and wind > 0 and faces = 2;"
            + "whim 1 if person = 1 and faces = 0";
        WhimWind left = by("plateau 2 9;person 0 0 1;person 1 0 3", rule);
        WhimWind right = by("plateau 2 9;person 1 0 3;person 0 0 1", rule);
        for (WhimWind x : new WhimWind[] {left, right}) {
            due("any way of one, way 0 of the other", x.rests(0, 1, 2, 0), 4);
            due("the first", x.rests(0, 1, 2, 1), 0);
            due("the first", x.rests(0, 1, 2, 2), 0);
            due("way 0 of one, any of the other", x.rests(1, 0, 2, 0), 4);
            due("the first", x.rests(1, 0, 2, 1), 0);
            due("the first", x.rests(1, 0, 2, 2), 0);
        }
        // Person 1 has most by the way in which there is wind for person 0.
        WhimWind both = by("plateau 2 9;person 0 0 1;person 1 0 3", "whim 1 if hour = 0;"
            + "whim 1 if person = 0 and wind > 0 and faces = 2;whim 1 if person = 1 and faces = 3");
        due("one two", both.rests(0, 1, 2, 0), 1);
        due("one", both.rests(0, 1, 2, 1), 2);
        due("other", both.rests(0, 1, 2, 2), 3);
        due("the other one first", both.rests(1, 0, 2, 1), 3);
        due("then the one", both.rests(1, 0, 2, 2), 2);
    }

    // ---- promise 28

    private static void pence() {
        promise = 28;
        range("much", 0, 9999, -1, (x, much) -> x.pence(much, 0));
        range("person", 0, 2, -1, (x, p) -> x.pence(10, p));
        WhimWind x = by(SIX, "whim 1 if hour = 0 and person = 5;whim hour");
        for (int p = 0; p < 6; p++) {
            due("nobody has", x.pence(9999, p), 0);
        }
        x.hour();
        for (int p = 0; p < 6; p++) {
            due("one alone has", x.pence(9999, p), p == 5 ? 9999 : 0);
            due("one alone has one", x.pence(1, p), p == 5 ? 1 : 0);
            due("none there", x.pence(0, p), 0);
        }
        due("no seventh", x.pence(1, 6), -1);
        due("nobody there", on("plateau 2 1").pence(1, 0), -1);
    }

    private static void penceLeft() {
        promise = 28;
        WhimWind x = by(SIX, "whim 1");
        x.hour();
        for (int much = 0; much <= 12; much++) {
            for (int p = 0; p < 6; p++) {
                due(much + " among six, the least first", x.pence(much, p), much / 6 + (p < much % 6 ? 1 : 0));
            }
        }
        for (int p = 0; p < 6; p++) {
            due("9999 among six", x.pence(9999, p), p < 3 ? 1667 : 1666);
        }
        // Once, twice, and three times as often: 7 by sixths is 1 1/6, 2 2/6, 3 3/6.
        WhimWind y = by("plateau 2 9;person 0 0 0;person 0 0 0;person 0 0 0;person 0 0 0", "whim person - hour");
        hours(y, 3);
        int[] seven = {0, 1, 2, 4};
        int[] one = {0, 0, 0, 1};
        // 2: 2/6, 4/6, 1: one is left; 5: 5/6, 1 4/6, 2 3/6: two are left.
        int[] two = {0, 0, 1, 1};
        int[] five = {0, 1, 2, 2};
        for (int p = 0; p < 4; p++) {
            due("7", y.pence(7, p), seven[p]);
            due("1", y.pence(1, p), one[p]);
            due("2", y.pence(2, p), two[p]);
            due("5", y.pence(5, p), five[p]);
            due("6", y.pence(6, p), p);
        }
    }

    // ---- promises 29 to 31

    private static WhimWind tenNotes() {
        WhimWind x = busy();
        for (int i = 3; i <= 10; i++) {
            due("note " + i, x.note(0, 0, 0), i);
        }
        return x;
    }

    private static void note() {
        promise = 29;
        for (int none : new int[] {-2, 61, LEAST, MOST}) {
            leaves("hour " + none, -2, x -> x.note(none, 0, 0));
        }
        for (int none : new int[] {-1, 9, LEAST, MOST}) {
            leaves("cell " + none, -2, x -> x.note(0, none, 0));
        }
        for (int none : new int[] {-1, 1000, LEAST, MOST}) {
            leaves("wind " + none, -2, x -> x.note(0, 0, none));
        }
        leaves(BoundariesOfQuestions::tenNotes, "an eleventh", -2, x -> x.note(0, 0, 0));
        WhimWind x = tenNotes();
        due("there are ten", x.count(12), 10);
        due("none then", x.note(-1, LEAST, MOST), 0);
        due("there is none", x.count(12), 0);
        due("all rules are so", x.ruled(0), 3);
        due("none of none", x.note(-1, 0, 0), 0);
        due("the least", x.note(0, 0, 0), 1);
        due("the most", x.note(60, 8, 999), 2);
        due("acts are what they were", x.count(13), 6);
        WhimWind full = on(FULL);
        due("the last cell", full.note(60, 35, 999), 1);
        due("none behind it", full.note(60, 36, 999), -2);
    }

    private static void ruled() {
        promise = 30;
        range("what", 0, 1, -3, (x, what) -> x.ruled(what));
        WhimWind x = on("plateau 2 9;person 0 20 1;mill 1 1");
        due("none alone", x.ruled(0), 1);
        due("none", x.ruled(1), -1);
        for (int hour : new int[] {0, 1, 59, 60, 61, 62}) {
            tellRule(x, "whim 1 if hour = " + hour);
        }
        due("six and none", x.ruled(0), 7);
        due("none is ahead of 0", x.ruled(1), -1);
        int[] told = {0, 1, 59, 60};
        for (int r = 0; r < told.length; r++) {
            x.note(-1, 0, 0);
            x.note(told[r], 1, told[r] + 1);
            due("in hour " + told[r] + " by one", x.ruled(0), 1);
            due("which", x.ruled(1), r);
        }
        x.note(-1, 0, 0);
        for (int r = 0; r < told.length; r++) {
            x.note(told[r], 1, 0);
        }
        due("none and the last two", x.ruled(0), 3);
        x.note(20, 1, 0);
        due("the last two", x.ruled(0), 2);
        due("the first of them", x.ruled(1), 4);
        x.note(0, 1, 1);
        due("none such", x.ruled(0), 0);
        due("none such", x.ruled(1), -2);
        x.note(-1, 0, 0);
        x.force(2);
        hours(x, 3);
        x.wine(0, 9);
        x.place(0, 2);
        x.face(0, 3);
        x.note(0, 1, 1);
        due("as the text told it", x.ruled(1), 0);
        due("by one", x.ruled(0), 1);
    }

    /** NOTES that can't be so by any RULE. */
    private static WhimWind unruled() {
        WhimWind x = busy();
        x.note(2, 4, 2);
        return x;
    }

    private static void look() {
        promise = 31;
        range("hour", 0, 60, -1, (x, n) -> x.look(n, 0));
        range("what", 0, 1, -1, (x, what) -> x.look(1, what));
        // Without a rule there is wind in hours 20, 41, and so on.
        WhimWind x = on("plateau 2 9;person 0 20 1");
        due("one alone", x.look(60, 0), 0);
        due("is alike", x.look(60, 1), 1);
        tellRule(x, "whim 1 if hour = 60 or hour = 0");
        due("hour 59: all alike", x.look(59, 0), 0);
        due("both", x.look(59, 1), 2);
        due("hour 60: before them", x.look(60, 0), 1);
        due("they part", x.look(60, 1), 1);
        due("hour 0: before them", x.look(0, 0), 1);
        due("they part", x.look(0, 1), 1);
        x.note(60, 1, 60);
        due("one is left", x.look(0, 1), 1);
        due("which parts nowhere", x.look(0, 0), 0);
        for (int what = 0; what < 2; what++) {
            int asked = what;
            leaves(BoundariesOfQuestions::unruled, "no rule is so", -2, y -> y.look(60, asked));
            leaves(BoundariesOfQuestions::unruled, "no rule is so", -2, y -> y.look(0, asked));
        }
        WhimWind last = on("plateau 6 9;person 34 20 1");
        for (int r = 0; r < 6; r++) {
            tellRule(last, "whim 1 if hour = " + r);
        }
        due("the last cell", last.look(5, 0), 35);
        due("six of seven are alike", last.look(5, 1), 6);
        due("all seven", last.look(6, 1), 7);
        due("everywhere", last.look(6, 0), 0);
    }

    // ---- promises 32 to 34

    private static void seed() {
        promise = 32;
        leaves("below 0", -1, x -> x.seed(-1));
        leaves("the least", -1, x -> x.seed(LEAST));
        leaves("as it is", 9, x -> x.seed(9));
        WhimWind x = new WhimWind();
        due("0 at first", x.seed(MOST), 0);
        due("the greatest", x.count(14), MOST);
        due("the greatest", x.seed(0), MOST);
        due("0", x.count(14), 0);
        due("0", x.seed(1), 0);
    }

    private static void notions() {
        promise = 33;
        range("times", 1, 10, -1, (x, m) -> x.notions(m, 1, 50, 0));
        range("hours", 1, 60, -1, (x, n) -> x.notions(1, n, 50, 0));
        range("of 100", 0, 100, -1, (x, p) -> x.notions(1, 1, p, 0));
        range("what", 0, 1, -1, (x, what) -> x.notions(1, 1, 50, what));
        WhimWind x = by(ROW, "whim 1 if hour = 59");
        due("in 59 nothing", x.notions(10, 59, 0, 0), 0);
        due("no roofs", x.notions(10, 59, 0, 1), 0);
        due("in 60 once", x.notions(1, 60, 0, 0), 20);
        due("two roofs", x.notions(1, 60, 0, 1), 2);
        due("ten times", x.notions(10, 60, 0, 0), 200);
        due("all together", x.notions(10, 60, 0, 1), 20);
        due("by p 100", x.notions(10, 60, 100, 0), 200);
        WhimWind urged = by(ROW, "whim 1 if urge > 99");
        wines(urged, 0, 99);
        due("9 more, 99 at most", urged.notions(10, 60, 100, 0), 0);
        WhimWind bare = on("plateau 2 1;mill 0 20;roof 0 0");
        due("nobody", bare.notions(10, 60, 100, 0), 0);
        due("no roofs", bare.notions(10, 60, 100, 1), 0);
    }

    /** Whether the first of one HOUR's draws gives somebody 9 more. */
    private static int given(int x, int p) {
        WhimWind w = by("plateau 2 9;person 0 0 1;mill 1 20", "whim urge - 9");
        w.seed(x);
        return w.notions(1, 1, p, 0) == 10 ? 1 : 0;
    }

    private static void notionsDrawn() {
        promise = 33;
        // From 0 on the first draw is 0; from 2147483647 on 15929, 4409; from 194 on 22599, 21269.
        due("0 is not below 0", given(0, 0), 0);
        due("0 is below 1", given(0, 1), 1);
        due("29 is not below 29", given(MOST, 29), 0);
        due("29 is below 30", given(MOST, 30), 1);
        due("99 is not below 99", given(194, 99), 0);
        due("99 is below 100", given(194, 100), 1);
        WhimWind six = by("plateau 6 9;person 4 0 1;person 10 0 1;person 16 0 1;person 22 0 1;person 28 0 1;"
            + "person 34 0 1;mill 35 20", "whim urge - 9");
        six.seed(MOST);
        due("4409 by six is 5, the last one", six.notions(1, 1, 30, 0), 10);
        due("x as it was", six.count(14), MOST);
        six.seed(0);
        due("21468 by six is 0, the first one", six.notions(1, 1, 30, 0), 0);
        due("x as it was", six.count(14), 0);
    }

    private static void count() {
        promise = 34;
        range("what", 0, 15, -1, (x, what) -> x.count(what));
        int[] all = {3, 2, 3, 2, 2, 2, 0, 3, 5, 1, 5, 1, 2, 6, 9, 33};
        WhimWind x = busy();
        for (int what = 0; what < all.length; what++) {
            due("what " + what, x.count(what), all[what]);
        }
        x.force(-1);
        due("no rule in force", x.count(6), -1);
    }

    // ---- promises 35 and 36

    private static void image() {
        promise = 35;
        for (int none : new int[] {4, -1, LEAST, MOST}) {
            leaves("image " + none, -1, x -> x.image(none));
        }
        WhimWind x = new WhimWind();
        due("without a plateau", x.image(0), 0);
        tellPlateau(x, "plateau 2 1;person 0 20 1");
        for (int k = 0; k < 4; k++) {
            due("the hour", x.image(k), k);
            x.hour();
        }
        for (int k = 3; k >= 0; k--) {
            due("each its own", x.back(k), k);
            due("as it was", x.person(0, 3), k);
        }
        x.back(3);
        due("made anew", x.image(0), 3);
        x.hour();
        due("the newer one", x.back(0), 3);
    }

    private static WhimWind imaged() {
        WhimWind x = busy();
        x.image(0);
        x.image(3);
        return x;
    }

    private static void back() {
        promise = 36;
        for (int none : new int[] {4, -1, LEAST, MOST}) {
            leaves("image " + none, -1, x -> x.back(none));
        }
        for (int none : new int[] {0, 2, 3}) {
            leaves("never made, " + none, -1, x -> x.back(none));
        }
        leaves(BoundariesOfQuestions::imaged, "as it is", 3, x -> x.back(0));
        leaves(BoundariesOfQuestions::imaged, "as it was ahead of acts", 3, x -> {
            hours(x, 25);
            x.wine(2, 9);
            x.place(0, 0);
            x.face(0, 0);
            x.mend(0);
            x.seed(77);
            x.note(9, 8, 7);
            x.force(-1);
            return x.back(0);
        });
        leaves(BoundariesOfQuestions::imaged, "as it was ahead of all undone", 3, x -> {
            for (int i = 0; i < 7; i++) {
                x.undo();
            }
            x.note(-1, 0, 0);
            x.force(1);
            return x.back(3);
        });
        WhimWind x = imaged();
        x.end(0);
        due("another plateau", tellPlateau(x, FULL), 6);
        due("another rule", tellRule(x, "whim 1"), 2);
        x.feed(0, 0, 0, 0, 0);
        due("back", x.back(0), 3);
        int[] all = {3, 2, 3, 2, 2, 3, 0, 3, 5, 1, 5, 1, 2, 6, 9, 20};
        for (int what = 0; what < all.length; what++) {
            due("rules and tape stay, count " + what, x.count(what), all[what]);
        }
        WhimWind y = new WhimWind();
        y.image(2);
        tellPlateau(y, FULL);
        due("to no plateau", y.back(2), 0);
        due("side", y.count(0), 0);
        due("no hour", y.hour(), -1);
        due("nobody", y.person(0, 0), -1);
    }
}
