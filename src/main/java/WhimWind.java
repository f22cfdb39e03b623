import java.util.Arrays;

/** Whims as wind over a plateau of cells: told in texts, gone through by hand, asked about ahead. */
public final class WhimWind {
    public static final int NONE = -1;

    // Answers of the face beside NONE that stand for something that is not there.
    private static final int NO_SUCH = -2;
    private static final int NOT_ASKED = -3;

    // How many of each there can be.
    private static final int PEOPLE = 6;
    private static final int MILLS = 4;
    private static final int ROOFS = 4;
    private static final int WAYS = 4;
    private static final int SIDE_LEAST = 2;
    private static final int SIDE_MOST = 6;
    private static final int CELLS = SIDE_MOST * SIDE_MOST;
    private static final int RULES = 6;
    private static final int NOTES = 10;
    private static final int IMAGES = 4;
    private static final int ACTS = 20;

    // Limits of the texts.
    private static final int TEXT = 400;
    private static final int FEED = 20;
    private static final int DIGITS = 5;
    private static final int PLATEAU_CLAUSES = 40;
    private static final int RULE_CLAUSES = 12;
    private static final int DEEP = 10;
    private static final int ITEMS = 60;

    // Limits of what is told, done and asked.
    private static final int CATCH_MOST = 9;
    private static final int STEADY_MOST = 20;
    private static final int CAN_MOST = 20;
    private static final int HOLDS_MOST = 40;
    private static final int URGE_MOST = 99;
    private static final int SINCE_MOST = 99;
    private static final int GROUND_MOST = 9999;
    private static final int HOUR_MOST = 999;
    private static final int WINE_MOST = 9;
    private static final int WIND_MOST = 999;
    private static final int FAR = 100;
    private static final int WAY_HOURS = 60;
    private static final int NOTE_HOUR = 60;
    private static final int REST_HOURS = 20;
    private static final int TAKES_MOST = 40;
    private static final int PENCE_MOST = 9999;
    private static final int TIMES = 10;
    private static final int NOTION = 9;

    // Kinds of a FAULT.
    private static final int MISPLACED = 0;
    private static final int MISNUMBERED = 1;
    private static final int TOO_DEEP = 2;
    private static final int TOO_LONG = 3;
    private static final int TOO_MANY = 4;

    // What texts, and the codes of RULES, are made of; a sign of one byte is that byte.
    private static final int TEXT_END = -1;
    private static final int NUMBER = 256;
    private static final int AT_MOST = 257;
    private static final int AT_LEAST = 258;
    private static final int UNKNOWN = 259;

    // Words that are known, by their places in Tape.named; first those of a PERSON.
    private static final int NAMES = 300;
    private static final int WORDS = 12;
    private static final int PERSON = 300;
    private static final int IF = 312;
    private static final int AND = 313;
    private static final int OR = 314;
    private static final int NOT = 315;
    private static final int WHIM = 316;
    private static final int PLATEAU = 317;
    private static final int MILL = 318;
    private static final int ROOF = 319;
    private static final int NAMES_END = 320;

    // How closely signs bind; a bracket that is open holds all of them.
    private static final int BIND_OR = 1;
    private static final int BIND_AND = 2;
    private static final int BIND_NOT = 3;
    private static final int BIND_COMPARE = 4;
    private static final int BIND_PLUS = 5;
    private static final int BIND_TIMES = 6;

    private static final int[] ROW_STEP = {-1, 0, 1, 0};
    private static final int[] COLUMN_STEP = {0, 1, 0, -1};

    private final Tape tape = new Tape();
    private final RuleReader ruleReader = new RuleReader();
    private final Plateau draft = new Plateau();
    private final Outlook outlook = new Outlook();
    private final World now = outlook.now;
    private final World[] images = new World[IMAGES];
    private final boolean[] imageMade = new boolean[IMAGES];

    public WhimWind() {
        for (int k = 0; k < IMAGES; k++) {
            images[k] = new World();
        }
    }

    // ---- texts

    public int feed(int a, int b, int c, int d, int e) {
        if (tape.length + FEED > TEXT) {
            return NONE;
        }
        tape.add(a);
        tape.add(b);
        tape.add(c);
        tape.add(d);
        tape.add(e);
        return tape.length;
    }

    public int end(int n) {
        if (!within(n, 0, tape.length)) {
            return NONE;
        }
        tape.length = n;
        return n;
    }

    public int plateau() {
        int fault = PlateauReader.read(tape, draft);
        tape.clear();
        if (fault != 0) {
            return -2 - fault;
        }
        now.begin(draft);
        return now.told.people;
    }

    public int rule() {
        int next = outlook.ruleCount;
        if (!within(next, 0, RULES - 1)) {
            return NONE;
        }
        int fault = ruleReader.read(tape, outlook.rules[next]);
        tape.clear();
        if (fault != 0) {
            return -2 - fault;
        }
        outlook.ruleCount = next + 1;
        return next;
    }

    public int force(int rule) {
        if (!within(rule, NONE, outlook.ruleCount - 1)) {
            return NO_SUCH;
        }
        int was = now.force;
        now.force = rule;
        return was;
    }

    // ---- how it is

    public int person(int person, int what) {
        if (!isPerson(person)) {
            return NONE;
        }
        switch (what) {
            case 0:
                return now.state.cell[person];
            case 1:
                return now.told.steady[person];
            case 2:
                return now.state.faces[person];
            case 3:
                return now.state.urge[person];
            case 4:
                return now.state.acted[person];
            case 5:
                return now.state.since[person];
            default:
                return NONE;
        }
    }

    public int mill(int mill, int what) {
        if (!isMill(mill)) {
            return NONE;
        }
        switch (what) {
            case 0:
                return now.told.millCell[mill];
            case 1:
                return now.told.can[mill];
            case 2:
                return now.state.ground[mill];
            default:
                return NONE;
        }
    }

    public int roof(int roof, int what) {
        if (!isRoof(roof)) {
            return NONE;
        }
        switch (what) {
            case 0:
                return now.told.roofCell[roof];
            case 1:
                return now.told.holds[roof];
            case 2:
                return now.state.off >> roof & 1;
            default:
                return NONE;
        }
    }

    public int wind(int cell) {
        return isCell(cell) ? now.state.windAt(cell) : NONE;
    }

    public int count(int what) {
        switch (what) {
            case 0:
                return now.told.side;
            case 1:
                return now.told.catches;
            case 2:
                return now.told.people;
            case 3:
                return now.told.mills;
            case 4:
                return now.told.roofs;
            case 5:
                return outlook.ruleCount;
            case 6:
                return now.force;
            case 7:
                return now.state.hour;
            case 8:
                return now.state.groundInAll();
            case 9:
                return now.state.off;
            case 10:
                return now.state.windInAll();
            case 11:
                return now.state.actedInAll();
            case 12:
                return now.notes.size;
            case 13:
                return now.acts.size;
            case 14:
                return now.x;
            case 15:
                return tape.length;
            default:
                return NONE;
        }
    }

    // ---- acts

    public int hour() {
        if (!now.told.isThere() || now.state.hour >= HOUR_MOST) {
            return NONE;
        }
        now.acts.keep(now.state);
        return outlook.weather.pass(now.told, outlook.inForce(), now.state, NONE);
    }

    public int wine(int person, int much) {
        if (!isPerson(person) || !within(much, 1, WINE_MOST)) {
            return NONE;
        }
        now.acts.keep(now.state);
        now.state.urgeOn(person, much);
        return now.state.urge[person];
    }

    public int place(int person, int cell) {
        if (!isPerson(person) || !isCell(cell) || now.state.cell[person] == cell) {
            return NONE;
        }
        now.acts.keep(now.state);
        int was = now.state.cell[person];
        now.state.cell[person] = cell;
        return was;
    }

    public int face(int person, int way) {
        if (!isPerson(person) || !within(way, 0, WAYS - 1) || now.state.faces[person] == way) {
            return NONE;
        }
        now.acts.keep(now.state);
        int was = now.state.faces[person];
        now.state.faces[person] = way;
        return was;
    }

    public int mend(int roof) {
        if (!isRoof(roof) || (now.state.off >> roof & 1) == 0) {
            return NONE;
        }
        now.acts.keep(now.state);
        now.state.off &= ~(1 << roof);
        return Integer.bitCount(now.state.off);
    }

    public int undo() {
        return now.acts.goBack(now.state) ? now.acts.size : NO_SUCH;
    }

    // ---- what is asked

    public int ahead(int number, int n, int what) {
        if (!now.told.isThere() || !within(n, 0, FAR) || !isAhead(number, what)) {
            return NONE;
        }
        return outlook.aheadBy(number, n, what);
    }

    public int whim(int person) {
        return isPerson(person) ? outlook.firstHour(1 << person, 1) : NONE;
    }

    public int storm(int k) {
        if (!now.told.isThere() || !within(k, 1, PEOPLE)) {
            return NONE;
        }
        return outlook.firstHour((1 << PEOPLE) - 1, k);
    }

    public int stand(int person, int n, int what) {
        if (!isPerson(person) || !isWayAsked(n, what)) {
            return NONE;
        }
        return outlook.bestCell(person, n, what);
    }

    public int turn(int person, int n, int what) {
        if (!isPerson(person) || !isWayAsked(n, what)) {
            return NONE;
        }
        return outlook.bestFace(person, n, what);
    }

    public int takes(int person, int mill, int amount, int n) {
        if (!isPerson(person) || !isMill(mill) || !within(amount, 1, GROUND_MOST) || !within(n, 1, WAY_HOURS)) {
            return NONE;
        }
        return outlook.leastWine(person, mill, amount, n);
    }

    public int blown(int cell, int wind, int what) {
        if (!isCell(cell) || !within(wind, 0, WIND_MOST) || !within(what, 0, 2)) {
            return NOT_ASKED;
        }
        return outlook.blowers(cell, wind, what);
    }

    public int still(int n, int what) {
        if (!now.told.isThere() || !isWayAsked(n, what)) {
            return NO_SUCH;
        }
        return outlook.bestStill(n, what);
    }

    public int lull(int n, int what) {
        if (!now.told.isThere() || !within(n, 1, FAR) || !within(what, 0, 1)) {
            return NONE;
        }
        return outlook.longestLull(n, what);
    }

    public int harvest(int n, int what) {
        if (!now.told.isThere() || !within(n, 1, FAR) || !within(what, 0, 1)) {
            return NONE;
        }
        return outlook.windiest(n, what);
    }

    public int rests(int one, int other, int n, int what) {
        if (!isPerson(one) || !isPerson(other) || one == other) {
            return NONE;
        }
        if (!within(n, 1, REST_HOURS) || !within(what, 0, 2)) {
            return NONE;
        }
        return outlook.restsOf(one, other, n, what);
    }

    public int pence(int much, int person) {
        if (!isPerson(person) || !within(much, 0, PENCE_MOST)) {
            return NONE;
        }
        return now.state.share(much, person);
    }

    // ---- notes and rules

    public int note(int n, int cell, int wind) {
        if (n == NONE) {
            now.notes.size = 0;
            return 0;
        }
        if (!within(n, 0, NOTE_HOUR) || !isCell(cell) || !within(wind, 0, WIND_MOST)) {
            return NO_SUCH;
        }
        return now.notes.add(n, cell, wind) ? now.notes.size : NO_SUCH;
    }

    public int ruled(int what) {
        if (!now.told.isThere() || !within(what, 0, 1)) {
            return NOT_ASKED;
        }
        int fitting = outlook.fitting();
        if (what == 0) {
            return Integer.bitCount(fitting);
        }
        for (int r = NONE; r < RULES; r++) {
            if ((fitting >> (r + 1) & 1) != 0) {
                return r;
            }
        }
        return NO_SUCH;
    }

    public int look(int n, int what) {
        if (!now.told.isThere() || !within(n, 0, NOTE_HOUR) || !within(what, 0, 1)) {
            return NONE;
        }
        int fitting = outlook.fitting();
        return fitting == 0 ? NO_SUCH : outlook.bestLook(fitting, n, what);
    }

    // ---- draws

    public int seed(int x) {
        if (x < 0) {
            return NONE;
        }
        int was = now.x;
        now.x = x;
        return was;
    }

    public int notions(int m, int n, int p, int what) {
        if (!now.told.isThere() || !within(m, 1, TIMES) || !within(n, 1, WAY_HOURS)) {
            return NONE;
        }
        if (!within(p, 0, 100) || !within(what, 0, 1)) {
            return NONE;
        }
        return outlook.yearsOfNotions(m, n, p, what);
    }

    // ---- images

    public int image(int k) {
        if (!within(k, 0, IMAGES - 1)) {
            return NONE;
        }
        images[k].copyFrom(now);
        imageMade[k] = true;
        return now.state.hour;
    }

    public int back(int k) {
        if (!within(k, 0, IMAGES - 1) || !imageMade[k]) {
            return NONE;
        }
        now.copyFrom(images[k]);
        return now.state.hour;
    }

    // ---- what may be asked for

    private static boolean within(int number, int least, int most) {
        return number >= least && number <= most;
    }

    private boolean isPerson(int person) {
        return within(person, 0, now.told.people - 1);
    }

    private boolean isMill(int mill) {
        return within(mill, 0, now.told.mills - 1);
    }

    private boolean isRoof(int roof) {
        return within(roof, 0, now.told.roofs - 1);
    }

    private boolean isCell(int cell) {
        return within(cell, 0, now.told.cells() - 1);
    }

    private boolean isAhead(int number, int what) {
        switch (what) {
            case 0:
                return isPerson(number);
            case 1:
                return isMill(number);
            case 2:
                return isCell(number);
            default:
                return what == 3;
        }
    }

    private static boolean isWayAsked(int n, int what) {
        return within(n, 1, WAY_HOURS) && within(what, 0, 2);
    }

    /** Bytes that have come for the next text, which is gone along sign by sign till its first FAULT. */
    private static final class Tape {
        private final int[] bytes = new int[TEXT];
        private int length = 0;
        private int at = 0;
        private int fault = 0;
        // The sign that has been come to, its place, and of a NUMBER how much it is (NONE: too long).
        private int sign = TEXT_END;
        private int spot = 0;
        private int number = 0;

        private void add(int four) {
            for (int shift = 24; shift >= 0; shift -= 8) {
                if (length < TEXT) {
                    bytes[length] = four >>> shift & 255;
                    length++;
                }
            }
        }

        private void clear() {
            length = 0;
        }

        private void open() {
            at = 0;
            fault = 0;
        }

        private boolean isSound() {
            return fault == 0;
        }

        /** The sign that has been come to is at FAULT. */
        private void fail(int kind) {
            if (fault == 0) {
                fault = 1 + 8 * spot + kind;
            }
        }

        private void advance() {
            while (at < length && byteAt(at) == ' ') {
                at++;
            }
            spot = at;
            int first = byteAt(at);
            if (first >= '0' && first <= '9') {
                readNumber();
            } else if (first >= 'a' && first <= 'z') {
                readWord();
            } else {
                readSign(first);
            }
        }

        private int byteAt(int which) {
            return which >= 0 && which < length && which < TEXT ? bytes[which] : TEXT_END;
        }

        private void readNumber() {
            sign = NUMBER;
            number = 0;
            while (at < length && byteAt(at) >= '0' && byteAt(at) <= '9') {
                number = at - spot < DIGITS ? number * 10 + byteAt(at) - '0' : NONE;
                at++;
            }
        }

        private void readWord() {
            while (at < length && byteAt(at) >= 'a' && byteAt(at) <= 'z') {
                at++;
            }
            sign = UNKNOWN;
            for (int name = NAMES; name < NAMES_END && sign == UNKNOWN; name++) {
                if (isHere(named(name))) {
                    sign = name;
                }
            }
        }

        private void readSign(int first) {
            sign = first;
            if (first != TEXT_END) {
                at++;
            }
            if ((first == '<' || first == '>') && byteAt(at) == '=') {
                at++;
                sign = first == '<' ? AT_MOST : AT_LEAST;
            }
        }

        private boolean isHere(String word) {
            if (at - spot != word.length()) {
                return false;
            }
            for (int i = 0; i < word.length(); i++) {
                if (spot + i >= TEXT || bytes[spot + i] != word.charAt(i)) {
                    return false;
                }
            }
            return true;
        }

        /** The WORDS of a PERSON come in the order in which Weather tells them. */
        private static String named(int name) {
            switch (name) {
                case PERSON:
                    return "person";
                case NAMES + 1:
                    return "urge";
                case NAMES + 2:
                    return "steady";
                case NAMES + 3:
                    return "faces";
                case NAMES + 4:
                    return "row";
                case NAMES + 5:
                    return "column";
                case NAMES + 6:
                    return "wind";
                case NAMES + 7:
                    return "acted";
                case NAMES + 8:
                    return "since";
                case NAMES + 9:
                    return "ground";
                case NAMES + 10:
                    return "off";
                case NAMES + 11:
                    return "hour";
                case IF:
                    return "if";
                case AND:
                    return "and";
                case OR:
                    return "or";
                case NOT:
                    return "not";
                case WHIM:
                    return "whim";
                case PLATEAU:
                    return "plateau";
                case MILL:
                    return "mill";
                case ROOF:
                    return "roof";
                default:
                    return "";
            }
        }
    }

    /** What a PLATEAU's text tells; without one there are none of all. */
    private static final class Plateau {
        private int side = 0;
        private int catches = 0;
        private int people = 0;
        private int mills = 0;
        private int roofs = 0;
        private final int[] cell = new int[PEOPLE];
        private final int[] steady = new int[PEOPLE];
        private final int[] faces = new int[PEOPLE];
        private final int[] millCell = new int[MILLS];
        private final int[] can = new int[MILLS];
        private final int[] roofCell = new int[ROOFS];
        private final int[] holds = new int[ROOFS];

        private boolean isThere() {
            return side > 0;
        }

        private int cells() {
            return side * side;
        }

        private int rowOf(int spot) {
            return side > 0 ? spot / side : 0;
        }

        private int columnOf(int spot) {
            return side > 0 ? spot % side : 0;
        }

        private boolean has(int row, int column) {
            return row >= 0 && row < side && column >= 0 && column < side;
        }

        private void clear() {
            side = 0;
            catches = 0;
            people = 0;
            mills = 0;
            roofs = 0;
        }

        private void copyFrom(Plateau other) {
            side = other.side;
            catches = other.catches;
            people = other.people;
            mills = other.mills;
            roofs = other.roofs;
            System.arraycopy(other.cell, 0, cell, 0, PEOPLE);
            System.arraycopy(other.steady, 0, steady, 0, PEOPLE);
            System.arraycopy(other.faces, 0, faces, 0, PEOPLE);
            System.arraycopy(other.millCell, 0, millCell, 0, MILLS);
            System.arraycopy(other.can, 0, can, 0, MILLS);
            System.arraycopy(other.roofCell, 0, roofCell, 0, ROOFS);
            System.arraycopy(other.holds, 0, holds, 0, ROOFS);
        }
    }

    /** Reads a PLATEAU's text. */
    private static final class PlateauReader {
        /** Fills the draft; answers the FAULT, 0 without one. */
        private static int read(Tape text, Plateau draft) {
            text.open();
            draft.clear();
            boolean more = true;
            for (int clause = 0; clause <= PLATEAU_CLAUSES && more; clause++) {
                text.advance();
                readClause(text, draft, clause);
                if (text.isSound()) {
                    text.advance();
                }
                more = text.isSound() && text.sign == ';';
            }
            if (text.isSound() && text.sign != TEXT_END) {
                text.fail(MISPLACED);
            }
            return text.fault;
        }

        private static void readClause(Tape text, Plateau draft, int clause) {
            int kind = text.sign;
            if (kind != PLATEAU && kind != PERSON && kind != MILL && kind != ROOF) {
                text.fail(MISPLACED);
            } else if (clause >= PLATEAU_CLAUSES || !mayStand(kind, draft, clause == 0)) {
                text.fail(TOO_MANY);
            } else if (kind == PLATEAU) {
                readPlateau(text, draft);
            } else if (kind == PERSON) {
                readPerson(text, draft);
            } else if (kind == MILL) {
                readMill(text, draft);
            } else {
                readRoof(text, draft);
            }
        }

        private static boolean mayStand(int kind, Plateau draft, boolean isFirst) {
            switch (kind) {
                case PLATEAU:
                    return isFirst;
                case PERSON:
                    return !isFirst && draft.people < PEOPLE;
                case MILL:
                    return !isFirst && draft.mills < MILLS;
                default:
                    return !isFirst && draft.roofs < ROOFS;
            }
        }

        private static void readPlateau(Tape text, Plateau draft) {
            draft.side = next(text, SIDE_LEAST, SIDE_MOST);
            draft.catches = next(text, 1, CATCH_MOST);
        }

        private static void readPerson(Tape text, Plateau draft) {
            int p = draft.people;
            draft.cell[p] = next(text, 0, draft.cells() - 1);
            draft.steady[p] = next(text, 0, STEADY_MOST);
            draft.faces[p] = next(text, 0, WAYS - 1);
            draft.people++;
        }

        private static void readMill(Tape text, Plateau draft) {
            int m = draft.mills;
            draft.millCell[m] = next(text, 0, draft.cells() - 1);
            draft.can[m] = next(text, 1, CAN_MOST);
            draft.mills++;
        }

        private static void readRoof(Tape text, Plateau draft) {
            int r = draft.roofs;
            draft.roofCell[r] = next(text, 0, draft.cells() - 1);
            draft.holds[r] = next(text, 0, HOLDS_MOST);
            draft.roofs++;
        }

        /** The NUMBER that comes next; the least one it may be behind a FAULT. */
        private static int next(Tape text, int least, int most) {
            if (text.isSound()) {
                text.advance();
                if (text.sign != NUMBER) {
                    text.fail(MISPLACED);
                } else if (!within(text.number, least, most)) {
                    text.fail(MISNUMBERED);
                }
            }
            return text.isSound() ? text.number : least;
        }
    }

    /** A RULE: each CLAUSE's SUM and TEST as code that works on a pile of numbers. */
    private static final class Rule {
        private final int[] code = new int[TEXT];
        private final int[] extra = new int[TEXT];
        private int length = 0;
        private int clauses = 0;
        private final int[] sumAt = new int[RULE_CLAUSES];
        private final int[] testAt = new int[RULE_CLAUSES];
        private final int[] endAt = new int[RULE_CLAUSES];
        private final long[] pile = new long[ITEMS];

        private void clear() {
            length = 0;
            clauses = 0;
        }

        private void add(int sign, int number) {
            if (length < TEXT) {
                code[length] = sign;
                extra[length] = number;
                length++;
            }
        }

        private void addClause(int sumFrom, int testFrom) {
            if (clauses < RULE_CLAUSES) {
                sumAt[clauses] = sumFrom;
                testAt[clauses] = testFrom;
                endAt[clauses] = length;
                clauses++;
            }
        }

        /** Whether one with these WORDS gives way. */
        private boolean says(long[] words) {
            for (int c = 0; c < clauses; c++) {
                if (testAt[c] == endAt[c] || worth(testAt[c], endAt[c], words) != 0) {
                    return worth(sumAt[c], testAt[c], words) > 0;
                }
            }
            return false;
        }

        private long worth(int from, int to, long[] words) {
            int top = 0;
            for (int i = from; i < to && i < TEXT; i++) {
                int sign = code[i];
                if (sign == NUMBER || isWord(sign)) {
                    if (top < ITEMS) {
                        pile[top] = sign == NUMBER ? extra[i] : words[sign - NAMES];
                        top++;
                    }
                } else if (sign == NOT) {
                    if (top > 0) {
                        pile[top - 1] = 1 - pile[top - 1];
                    }
                } else if (top > 1) {
                    top--;
                    pile[top - 1] = joined(sign, pile[top - 1], pile[top]);
                }
            }
            return top > 0 ? pile[0] : 0;
        }

        private static boolean isWord(int sign) {
            return sign >= NAMES && sign < NAMES + WORDS;
        }

        private static long joined(int sign, long left, long right) {
            switch (sign) {
                case '+':
                    return left + right;
                case '-':
                    return left - right;
                case '*':
                    return left * right;
                case '/':
                    return right == 0 ? 0 : left / right;
                case '%':
                    return right == 0 ? 0 : left % right;
                case '<':
                    return left < right ? 1 : 0;
                case AT_MOST:
                    return left <= right ? 1 : 0;
                case '=':
                    return left == right ? 1 : 0;
                case AT_LEAST:
                    return left >= right ? 1 : 0;
                case '>':
                    return left > right ? 1 : 0;
                case AND:
                    return left & right;
                case OR:
                    return left | right;
                default:
                    return 0;
            }
        }
    }

    /** Reads a RULE's text; signs wait on a pile till all that they join has come. */
    private static final class RuleReader {
        // What may come next.
        private static final int CLAUSE = 0;
        private static final int VALUE = 1;
        private static final int FACT = 2;
        private static final int BEHIND = 3;
        private static final int NOTHING = 4;

        // What has come last: a CLAUSE's SUM, a FACT's left or right one, or a FACT in brackets.
        private static final int SUM = 0;
        private static final int LEFT = 1;
        private static final int RIGHT = 2;
        private static final int WHOLE = 3;

        private final int[] waiting = new int[TEXT];
        private int top = 0;
        private int deep = 0;
        private int items = 0;
        private int next = CLAUSE;
        private int part = SUM;
        private int sumFrom = 0;
        private int testFrom = 0;

        /** Fills the rule; answers the FAULT, 0 without one. */
        private int read(Tape text, Rule rule) {
            text.open();
            rule.clear();
            top = 0;
            deep = 0;
            items = 0;
            next = CLAUSE;
            for (int i = 0; i <= TEXT && text.isSound() && next != NOTHING; i++) {
                text.advance();
                readOn(text, rule);
            }
            return text.fault;
        }

        private void readOn(Tape text, Rule rule) {
            switch (next) {
                case CLAUSE:
                    readClause(text, rule);
                    break;
                case VALUE:
                    readValue(text, rule);
                    break;
                case FACT:
                    readFact(text, rule);
                    break;
                default:
                    readBehind(text, rule);
                    break;
            }
        }

        private void readClause(Tape text, Rule rule) {
            if (text.sign != WHIM) {
                text.fail(MISPLACED);
            } else if (rule.clauses >= RULE_CLAUSES) {
                text.fail(TOO_MANY);
            }
            sumFrom = rule.length;
            part = SUM;
            next = VALUE;
        }

        private void readValue(Tape text, Rule rule) {
            if (text.sign != NUMBER && !Rule.isWord(text.sign)) {
                text.fail(MISPLACED);
            } else if (text.sign == NUMBER && text.number == NONE) {
                text.fail(MISNUMBERED);
            }
            countItem(text);
            rule.add(text.sign, text.number);
            next = BEHIND;
        }

        private void readFact(Tape text, Rule rule) {
            if (text.sign != '[' && text.sign != NOT) {
                part = LEFT;
                readValue(text, rule);
            } else if (deep >= DEEP) {
                text.fail(TOO_DEEP);
            } else {
                deep++;
                push(text.sign);
            }
        }

        private void readBehind(Tape text, Rule rule) {
            int sign = text.sign;
            int binding = bindingOf(sign);
            boolean isEnd = sign == ';' || sign == TEXT_END;
            if (binding >= BIND_PLUS && part != WHOLE) {
                join(sign, rule);
                next = VALUE;
            } else if (binding == BIND_COMPARE && part == LEFT) {
                countItem(text);
                join(sign, rule);
                part = RIGHT;
                next = VALUE;
            } else if ((sign == AND || sign == OR) && part >= RIGHT) {
                join(sign, rule);
                next = FACT;
            } else if (sign == ']' && part >= RIGHT) {
                closeBracket(text, rule);
            } else if (sign == IF && part == SUM) {
                release(BIND_OR, rule);
                testFrom = rule.length;
                next = FACT;
            } else if (isEnd && part != LEFT) {
                closeClause(text, rule);
            } else {
                text.fail(MISPLACED);
            }
        }

        private void closeBracket(Tape text, Rule rule) {
            release(BIND_OR, rule);
            if (top > 0) {
                top--;
                deep--;
                part = WHOLE;
            } else {
                text.fail(MISPLACED);
            }
        }

        private void closeClause(Tape text, Rule rule) {
            release(BIND_OR, rule);
            if (top > 0) {
                text.fail(MISPLACED);
            }
            rule.addClause(sumFrom, part == SUM ? rule.length : testFrom);
            next = text.sign == ';' ? CLAUSE : NOTHING;
        }

        private void countItem(Tape text) {
            items++;
            if (items > ITEMS) {
                text.fail(TOO_LONG);
            }
        }

        private void join(int sign, Rule rule) {
            release(bindingOf(sign), rule);
            push(sign);
        }

        private void push(int sign) {
            if (top < TEXT) {
                waiting[top] = sign;
                top++;
            }
        }

        /** Signs that wait and bind at least so closely have all that they join. */
        private void release(int binding, Rule rule) {
            while (top > 0 && bindingOf(waiting[top - 1]) >= binding) {
                top--;
                rule.add(waiting[top], 0);
                deep -= waiting[top] == NOT ? 1 : 0;
            }
        }

        /** 0 for what joins nothing, an open bracket too. */
        private static int bindingOf(int sign) {
            switch (sign) {
                case OR:
                    return BIND_OR;
                case AND:
                    return BIND_AND;
                case NOT:
                    return BIND_NOT;
                case '<':
                case AT_MOST:
                case '=':
                case AT_LEAST:
                case '>':
                    return BIND_COMPARE;
                case '+':
                case '-':
                    return BIND_PLUS;
                case '*':
                case '/':
                case '%':
                    return BIND_TIMES;
                default:
                    return 0;
            }
        }
    }

    /** What goes on: all that ACTS can change. */
    private static final class State {
        private final int[] cell = new int[PEOPLE];
        private final int[] faces = new int[PEOPLE];
        private final int[] urge = new int[PEOPLE];
        private final int[] acted = new int[PEOPLE];
        private final int[] since = new int[PEOPLE];
        private final int[] ground = new int[MILLS];
        private final int[] wind = new int[CELLS];
        private int off = 0;
        private int hour = 0;

        private void begin(Plateau told) {
            System.arraycopy(told.cell, 0, cell, 0, PEOPLE);
            System.arraycopy(told.faces, 0, faces, 0, PEOPLE);
            Arrays.fill(urge, 0);
            Arrays.fill(acted, 0);
            Arrays.fill(since, SINCE_MOST);
            Arrays.fill(ground, 0);
            Arrays.fill(wind, 0);
            off = 0;
            hour = 0;
        }

        private void copyFrom(State other) {
            System.arraycopy(other.cell, 0, cell, 0, PEOPLE);
            System.arraycopy(other.faces, 0, faces, 0, PEOPLE);
            System.arraycopy(other.urge, 0, urge, 0, PEOPLE);
            System.arraycopy(other.acted, 0, acted, 0, PEOPLE);
            System.arraycopy(other.since, 0, since, 0, PEOPLE);
            System.arraycopy(other.ground, 0, ground, 0, MILLS);
            System.arraycopy(other.wind, 0, wind, 0, CELLS);
            off = other.off;
            hour = other.hour;
        }

        private void urgeOn(int p, int much) {
            if (p >= 0 && p < PEOPLE) {
                urge[p] = Math.min(URGE_MOST, urge[p] + much);
            }
        }

        private int windAt(int spot) {
            return spot >= 0 && spot < CELLS ? wind[spot] : 0;
        }

        private int windInAll() {
            return sum(wind);
        }

        private int groundInAll() {
            return sum(ground);
        }

        private int actedInAll() {
            return sum(acted);
        }

        private static int sum(int[] row) {
            int all = 0;
            for (int number : row) {
                all += number;
            }
            return all;
        }

        /** A PERSON's PENCE of so much, by how often each has GIVEN WAY. */
        private int share(int much, int p) {
            int all = actedInAll();
            if (all <= 0 || p < 0 || p >= PEOPLE) {
                return 0;
            }
            int left = much;
            int before = 0;
            int lost = much * acted[p] % all;
            for (int other = 0; other < PEOPLE; other++) {
                int otherLost = much * acted[other] % all;
                left -= much * acted[other] / all;
                if (otherLost > lost || otherLost == lost && other < p) {
                    before++;
                }
            }
            return much * acted[p] / all + (before < left ? 1 : 0);
        }
    }

    /** How it was ahead of each of the last ACTS. */
    private static final class History {
        private final State[] states = new State[ACTS];
        private int next = 0;
        private int size = 0;

        private History() {
            for (int i = 0; i < ACTS; i++) {
                states[i] = new State();
            }
        }

        private void clear() {
            next = 0;
            size = 0;
        }

        private void keep(State state) {
            states[next].copyFrom(state);
            next = (next + 1) % ACTS;
            size = Math.min(ACTS, size + 1);
        }

        private boolean goBack(State state) {
            if (size <= 0) {
                return false;
            }
            next = (next + ACTS - 1) % ACTS;
            size--;
            state.copyFrom(states[next]);
            return true;
        }

        private void copyFrom(History other) {
            next = other.next;
            size = other.size;
            for (int i = 0; i < ACTS; i++) {
                states[i].copyFrom(other.states[i]);
            }
        }
    }

    /** NOTES: in which HOUR there was how much WIND in which CELL. */
    private static final class Notes {
        private final int[] hour = new int[NOTES];
        private final int[] cell = new int[NOTES];
        private final int[] wind = new int[NOTES];
        private int size = 0;

        private boolean add(int n, int spot, int much) {
            if (size >= NOTES) {
                return false;
            }
            hour[size] = n;
            cell[size] = spot;
            wind[size] = much;
            size++;
            return true;
        }

        /** The last HOUR that a NOTE is of, or NONE. */
        private int lastHour() {
            int last = NONE;
            for (int i = 0; i < size; i++) {
                last = Math.max(last, hour[i]);
            }
            return last;
        }

        /** Whether all NOTES of an HOUR are as it left things. */
        private boolean areSo(int n, State state) {
            for (int i = 0; i < size; i++) {
                if (hour[i] == n && state.windAt(cell[i]) != wind[i]) {
                    return false;
                }
            }
            return true;
        }

        private void copyFrom(Notes other) {
            System.arraycopy(other.hour, 0, hour, 0, NOTES);
            System.arraycopy(other.cell, 0, cell, 0, NOTES);
            System.arraycopy(other.wind, 0, wind, 0, NOTES);
            size = other.size;
        }
    }

    /** All that an IMAGE holds. */
    private static final class World {
        private final Plateau told = new Plateau();
        private final State state = new State();
        private final History acts = new History();
        private final Notes notes = new Notes();
        private int force = NONE;
        private int x = 0;

        private void begin(Plateau draft) {
            told.copyFrom(draft);
            state.begin(told);
            acts.clear();
            notes.size = 0;
        }

        private void copyFrom(World other) {
            told.copyFrom(other.told);
            state.copyFrom(other.state);
            acts.copyFrom(other.acts);
            notes.copyFrom(other.notes);
            force = other.force;
            x = other.x;
        }
    }

    /** Lets HOURS pass over a State. */
    private static final class Weather {
        private final long[] words = new long[WORDS];

        /** An HOUR; kept: one who doesn't give way whatever the rule says, or NONE. Who does, as bits. */
        private int pass(Plateau told, Rule rule, State state, int kept) {
            for (int p = 0; p < told.people; p++) {
                state.urgeOn(p, 1);
            }
            int givers = giversOf(told, rule, state, kept);
            blow(told, state, givers);
            grind(told, state);
            unroof(told, state);
            spread(told, state);
            state.hour++;
            return givers;
        }

        private int giversOf(Plateau told, Rule rule, State state, int kept) {
            int givers = 0;
            for (int p = 0; p < told.people; p++) {
                boolean gives;
                if (rule == null) {
                    gives = state.urge[p] > told.steady[p];
                } else {
                    tell(told, state, p);
                    gives = rule.says(words);
                }
                if (gives && p != kept) {
                    givers |= 1 << p;
                }
            }
            return givers;
        }

        /** The order is that of the names in Tape. */
        private void tell(Plateau told, State state, int p) {
            words[0] = p;
            words[1] = state.urge[p];
            words[2] = told.steady[p];
            words[3] = state.faces[p];
            words[4] = told.rowOf(state.cell[p]);
            words[5] = told.columnOf(state.cell[p]);
            words[6] = state.windAt(state.cell[p]);
            words[7] = state.acted[p];
            words[8] = state.since[p];
            words[9] = state.groundInAll();
            words[10] = Integer.bitCount(state.off);
            words[11] = state.hour;
        }

        private static void blow(Plateau told, State state, int givers) {
            Arrays.fill(state.wind, 0);
            for (int p = 0; p < told.people; p++) {
                if ((givers >> p & 1) != 0) {
                    puff(told, state, p, state.wind);
                    state.urge[p] = 0;
                    state.acted[p]++;
                    state.since[p] = 1;
                } else {
                    state.since[p] = Math.min(SINCE_MOST, state.since[p] + 1);
                }
            }
        }

        /** A PERSON's PUFF comes to the wind that there is. */
        private static void puff(Plateau told, State state, int p, int[] wind) {
            int row = told.rowOf(state.cell[p]);
            int column = told.columnOf(state.cell[p]);
            int way = state.faces[p] & (WAYS - 1);
            for (int much = state.urge[p]; much > 0; much--) {
                row += ROW_STEP[way];
                column += COLUMN_STEP[way];
                if (!told.has(row, column)) {
                    return;
                }
                int spot = row * told.side + column;
                if (spot < wind.length) {
                    wind[spot] += much;
                }
            }
        }

        private static void grind(Plateau told, State state) {
            for (int m = 0; m < told.mills; m++) {
                int much = Math.min(told.can[m], state.windAt(told.millCell[m]));
                state.ground[m] = Math.min(GROUND_MOST, state.ground[m] + much);
            }
        }

        private static void unroof(Plateau told, State state) {
            for (int r = 0; r < told.roofs; r++) {
                if (state.windAt(told.roofCell[r]) > told.holds[r]) {
                    state.off |= 1 << r;
                }
            }
        }

        private static void spread(Plateau told, State state) {
            if (told.catches <= 0) {
                return;
            }
            for (int p = 0; p < told.people; p++) {
                state.urgeOn(p, state.windAt(state.cell[p]) / told.catches);
            }
        }
    }

    /** How it is now, the RULES, and what is asked, tried on a State of its own, so that nothing changes. */
    private static final class Outlook {
        private final World now = new World();
        private final Rule[] rules = new Rule[RULES];
        private int ruleCount = 0;
        private final Weather weather = new Weather();
        private final State trial = new State();
        private final int[] gust = new int[CELLS];
        private final int[] shares = new int[PEOPLE];
        private final int[] oneHas = new int[WAYS * WAYS];
        private final int[] otherHas = new int[WAYS * WAYS];
        private final int[][] winds = new int[RULES + 1][CELLS];
        private int bestWay = NONE;
        private int bestRoofs = 0;
        private int bestGround = 0;
        private int drawn = 0;

        private Outlook() {
            for (int r = 0; r < RULES; r++) {
                rules[r] = new Rule();
            }
        }

        /** The RULE IN FORCE; null without one. */
        private Rule inForce() {
            return numbered(now.force);
        }

        private Rule numbered(int r) {
            return r >= 0 && r < rules.length ? rules[r] : null;
        }

        private void goOn(int n, int kept) {
            Rule rule = inForce();
            for (int i = 0; i < n; i++) {
                weather.pass(now.told, rule, trial, kept);
            }
        }

        private int aheadBy(int number, int n, int what) {
            trial.copyFrom(now.state);
            goOn(n, NONE);
            switch (what) {
                case 0:
                    return number >= 0 && number < PEOPLE ? trial.urge[number] : NONE;
                case 1:
                    return number >= 0 && number < MILLS ? trial.ground[number] : NONE;
                case 2:
                    return trial.windAt(number);
                default:
                    return trial.off;
            }
        }

        /** The first HOUR in which k or more of some PEOPLE (as bits) give way. */
        private int firstHour(int people, int k) {
            trial.copyFrom(now.state);
            Rule rule = inForce();
            for (int i = 0; i < FAR; i++) {
                int givers = weather.pass(now.told, rule, trial, NONE);
                if (Integer.bitCount(givers & people) >= k) {
                    return now.state.hour + i;
                }
            }
            return NO_SUCH;
        }

        private void forgetWays() {
            bestRoofs = ROOFS + 1;
            bestGround = 0;
        }

        /** The trial is how a way ends: the better one of it and of the best so far is kept, of like ones the first. */
        private void offer(int way) {
            int roofs = Integer.bitCount(trial.off);
            int ground = trial.groundInAll();
            if (roofs < bestRoofs || roofs == bestRoofs && ground > bestGround) {
                bestWay = way;
                bestRoofs = roofs;
                bestGround = ground;
            }
        }

        private int best(int what) {
            if (what == 0) {
                return bestWay;
            }
            return what == 1 ? bestRoofs : bestGround;
        }

        private int bestCell(int person, int n, int what) {
            forgetWays();
            for (int spot = 0; spot < now.told.cells(); spot++) {
                trial.copyFrom(now.state);
                trial.cell[person] = spot;
                goOn(n, NONE);
                offer(spot);
            }
            return best(what);
        }

        private int bestFace(int person, int n, int what) {
            forgetWays();
            for (int way = 0; way < WAYS; way++) {
                trial.copyFrom(now.state);
                trial.faces[person] = way;
                goOn(n, NONE);
                offer(way);
            }
            return best(what);
        }

        private int bestStill(int n, int what) {
            forgetWays();
            for (int kept = NONE; kept < now.told.people; kept++) {
                trial.copyFrom(now.state);
                goOn(n, kept);
                offer(kept);
            }
            return best(what);
        }

        private int leastWine(int person, int mill, int amount, int n) {
            for (int more = 0; more <= TAKES_MOST; more++) {
                trial.copyFrom(now.state);
                trial.urgeOn(person, more);
                goOn(n, NONE);
                if (trial.ground[mill] >= amount) {
                    return more;
                }
            }
            return NO_SUCH;
        }

        private int blowers(int spot, int much, int what) {
            int people = now.told.people;
            for (int p = 0; p < people; p++) {
                Arrays.fill(gust, 0);
                Weather.puff(now.told, now.state, p, gust);
                shares[p] = gust[spot];
            }
            int many = 0;
            int least = NO_SUCH;
            int inAll = (1 << people) - 1;
            for (int set = 0; set < 1 << people; set++) {
                if (sharesOf(set) == much) {
                    least = many == 0 ? set : least;
                    inAll &= set;
                    many++;
                }
            }
            if (what == 2) {
                return many == 0 ? 0 : inAll;
            }
            return what == 0 ? many : least;
        }

        private int sharesOf(int set) {
            int all = 0;
            for (int p = 0; p < PEOPLE; p++) {
                if ((set >> p & 1) != 0) {
                    all += shares[p];
                }
            }
            return all;
        }

        private int longestLull(int n, int what) {
            trial.copyFrom(now.state);
            Rule rule = inForce();
            int most = 0;
            int first = NO_SUCH;
            int run = 0;
            for (int i = 0; i < n; i++) {
                weather.pass(now.told, rule, trial, NONE);
                run = trial.windInAll() == 0 ? run + 1 : 0;
                if (run > most) {
                    most = run;
                    first = now.state.hour + i + 1 - run;
                }
            }
            return what == 0 ? most : first;
        }

        private int windiest(int n, int what) {
            trial.copyFrom(now.state);
            Rule rule = inForce();
            int most = NONE;
            int when = now.state.hour;
            for (int i = 0; i < n; i++) {
                weather.pass(now.told, rule, trial, NONE);
                int much = trial.windInAll();
                if (much > most) {
                    most = much;
                    when = now.state.hour + i;
                }
            }
            return what == 0 ? when : most;
        }

        private int restsOf(int one, int other, int n, int what) {
            for (int two = 0; two < WAYS * WAYS; two++) {
                playTwo(one, other, two, n);
            }
            int many = 0;
            int first = NONE;
            for (int two = 0; two < WAYS * WAYS; two++) {
                if (isRest(two)) {
                    first = many == 0 ? two : first;
                    many++;
                }
            }
            if (what == 0) {
                return many;
            }
            if (many == 0) {
                return NO_SUCH;
            }
            return what == 1 ? first / WAYS : first % WAYS;
        }

        private void playTwo(int one, int other, int two, int n) {
            trial.copyFrom(now.state);
            trial.faces[one] = two / WAYS;
            trial.faces[other] = two % WAYS;
            Rule rule = inForce();
            for (int i = 0; i < n; i++) {
                weather.pass(now.told, rule, trial, NONE);
            }
            oneHas[two] = trial.acted[one] - now.state.acted[one];
            otherHas[two] = trial.acted[other] - now.state.acted[other];
        }

        private boolean isRest(int two) {
            for (int way = 0; way < WAYS; way++) {
                if (oneHas[way * WAYS + two % WAYS] > oneHas[two]) {
                    return false;
                }
                if (otherHas[two / WAYS * WAYS + way] > otherHas[two]) {
                    return false;
                }
            }
            return true;
        }

        /** By which rules all NOTES are so, as bits: the first is no rule, then they come by number. */
        private int fitting() {
            int fitting = 0;
            for (int r = NONE; r < ruleCount; r++) {
                if (isFitting(numbered(r))) {
                    fitting |= 1 << (r + 1);
                }
            }
            return fitting;
        }

        private boolean isFitting(Rule rule) {
            trial.begin(now.told);
            int last = now.notes.lastHour();
            for (int n = 0; n <= last; n++) {
                weather.pass(now.told, rule, trial, NONE);
                if (!now.notes.areSo(n, trial)) {
                    return false;
                }
            }
            return true;
        }

        private int bestLook(int fitting, int n, int what) {
            fillWinds(fitting, n);
            int bestSpot = NONE;
            int fewest = RULES + 2;
            for (int spot = 0; spot < now.told.cells(); spot++) {
                int alike = mostAlike(fitting, spot);
                if (alike < fewest) {
                    fewest = alike;
                    bestSpot = spot;
                }
            }
            return what == 0 ? bestSpot : fewest;
        }

        private void fillWinds(int fitting, int n) {
            for (int i = 0; i <= RULES; i++) {
                if ((fitting >> i & 1) != 0) {
                    trial.begin(now.told);
                    for (int h = 0; h <= n; h++) {
                        weather.pass(now.told, numbered(i - 1), trial, NONE);
                    }
                    System.arraycopy(trial.wind, 0, winds[i], 0, CELLS);
                }
            }
        }

        private int mostAlike(int fitting, int spot) {
            int most = 0;
            for (int i = 0; i <= RULES; i++) {
                int alike = 0;
                for (int j = 0; j <= RULES; j++) {
                    boolean bothFit = (fitting >> i & fitting >> j & 1) != 0;
                    if (bothFit && winds[i][spot] == winds[j][spot]) {
                        alike++;
                    }
                }
                most = Math.max(most, alike);
            }
            return most;
        }

        private int yearsOfNotions(int m, int n, int p, int what) {
            drawn = now.x;
            int ground = 0;
            int roofs = 0;
            for (int i = 0; i < m; i++) {
                goThroughNotions(n, p);
                ground += trial.groundInAll() - now.state.groundInAll();
                roofs += Integer.bitCount(trial.off);
            }
            return what == 0 ? ground : roofs;
        }

        private void goThroughNotions(int n, int p) {
            trial.copyFrom(now.state);
            Rule rule = inForce();
            int people = now.told.people;
            for (int i = 0; i < n; i++) {
                if (draw() % 100 < p && people > 0) {
                    trial.urgeOn(draw() % people, NOTION);
                }
                weather.pass(now.told, rule, trial, NONE);
            }
        }

        private int draw() {
            drawn = (int) (drawn * 1103515245L + 12345L & 0x7fffffffL);
            return drawn / 65536;
        }
    }
}
