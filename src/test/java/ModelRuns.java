import java.util.ArrayDeque;
import java.util.ArrayList;
import java.util.Arrays;
import java.util.Deque;
import java.util.HashMap;
import java.util.List;
import java.util.Map;
import java.util.Random;
import java.util.TreeMap;

/** Long runs of drawn calls, answered by the program and by a plain second reading of the document. */
public final class ModelRuns {
    private static final int RUNS = 1500;
    private static final int CALLS = 500;

    /** A FAULT of a text. */
    static final class Fault extends RuntimeException {
        private static final long serialVersionUID = 1L;
        final int told;

        Fault(int place, int kind) {
            super(null, null, false, false);
            told = 1 + 8 * place + kind;
        }
    }

    /** What a text is made of. */
    static final class Token {
        final int place;
        final String text;

        Token(int place, String text) {
            this.place = place;
            this.text = text;
        }

        boolean isNumber() {
            return !text.isEmpty() && Character.isDigit(text.charAt(0));
        }

        int number(int least, int most) {
            if (!isNumber()) {
                throw new Fault(place, 0);
            }
            if (text.length() > 5 || Integer.parseInt(text) < least || Integer.parseInt(text) > most) {
                throw new Fault(place, 1);
            }
            return Integer.parseInt(text);
        }
    }

    static List<Token> tokens(String text) {
        List<Token> all = new ArrayList<>();
        int at = 0;
        while (at < text.length()) {
            int from = at;
            char c = text.charAt(at++);
            if (c == ' ') {
                continue;
            }
            String kind = c >= '0' && c <= '9' ? "0123456789" : c >= 'a' && c <= 'z' ? "abcdefghijklmnopqrstuvwxyz" : "";
            while (at < text.length() && kind.indexOf(text.charAt(at)) >= 0) {
                at++;
            }
            if ((c == '<' || c == '>') && at < text.length() && text.charAt(at) == '=') {
                at++;
            }
            all.add(new Token(from, text.substring(from, at)));
        }
        all.add(new Token(text.length(), ""));
        return all;
    }

    static final class Person {
        int cell;
        int steady;
        int faces;
        int urge;
        int acted;
        int since = 99;
    }

    static final class Mill {
        int cell;
        int can;
        int ground;
    }

    static final class Roof {
        int cell;
        int holds;
        boolean off;
    }

    interface Sum {
        long of(Game g, int person);
    }

    interface Test {
        boolean holds(Game g, int person);
    }

    static final class Clause {
        Sum sum;
        Test test;
    }

    static final class Game {
        int side;
        int caught;
        List<Person> people = new ArrayList<>();
        List<Mill> mills = new ArrayList<>();
        List<Roof> roofs = new ArrayList<>();
        int[] wind = new int[0];
        int hour;

        Game copy() {
            Game g = new Game();
            g.side = side;
            g.caught = caught;
            g.hour = hour;
            g.wind = wind.clone();
            for (Person p : people) {
                Person q = new Person();
                q.cell = p.cell;
                q.steady = p.steady;
                q.faces = p.faces;
                q.urge = p.urge;
                q.acted = p.acted;
                q.since = p.since;
                g.people.add(q);
            }
            for (Mill m : mills) {
                Mill k = new Mill();
                k.cell = m.cell;
                k.can = m.can;
                k.ground = m.ground;
                g.mills.add(k);
            }
            for (Roof r : roofs) {
                Roof k = new Roof();
                k.cell = r.cell;
                k.holds = r.holds;
                k.off = r.off;
                g.roofs.add(k);
            }
            return g;
        }

        int puffIn(Person p, int cell) {
            int dr = cell / side - p.cell / side;
            int dc = cell % side - p.cell % side;
            int far;
            if (p.faces == 0 && dc == 0) {
                far = -dr;
            } else if (p.faces == 1 && dr == 0) {
                far = dc;
            } else if (p.faces == 2 && dc == 0) {
                far = dr;
            } else if (p.faces == 3 && dr == 0) {
                far = -dc;
            } else {
                far = 0;
            }
            return far <= 0 ? 0 : Math.max(0, p.urge - (far - 1));
        }

        boolean gives(List<Clause> rule, int p) {
            if (rule == null) {
                return people.get(p).urge > people.get(p).steady;
            }
            for (Clause c : rule) {
                if (c.test == null || c.test.holds(this, p)) {
                    return c.sum.of(this, p) > 0;
                }
            }
            return false;
        }

        int pass(List<Clause> rule, int kept) {
            for (Person p : people) {
                p.urge = Math.min(99, p.urge + 1);
            }
            int bits = 0;
            for (int p = 0; p < people.size(); p++) {
                if (p != kept && gives(rule, p)) {
                    bits += 1 << p;
                }
            }
            int[] fresh = new int[side * side];
            for (int cell = 0; cell < fresh.length; cell++) {
                for (int p = 0; p < people.size(); p++) {
                    if ((bits & 1 << p) != 0) {
                        fresh[cell] += puffIn(people.get(p), cell);
                    }
                }
            }
            wind = fresh;
            for (int p = 0; p < people.size(); p++) {
                Person who = people.get(p);
                if ((bits & 1 << p) != 0) {
                    who.urge = 0;
                    who.acted++;
                    who.since = 1;
                } else if (who.since < 99) {
                    who.since++;
                }
            }
            for (Mill m : mills) {
                m.ground = Math.min(9999, m.ground + Math.min(m.can, wind[m.cell]));
            }
            for (Roof r : roofs) {
                r.off = r.off || wind[r.cell] > r.holds;
            }
            for (Person p : people) {
                p.urge = Math.min(99, p.urge + wind[p.cell] / caught);
            }
            hour++;
            return bits;
        }

        int ground() {
            return mills.stream().mapToInt(m -> m.ground).sum();
        }

        int off() {
            int bits = 0;
            for (int r = 0; r < roofs.size(); r++) {
                bits += roofs.get(r).off ? 1 << r : 0;
            }
            return bits;
        }

        int windAll() {
            return Arrays.stream(wind).sum();
        }
    }

    static final class PlateauText {
        final List<Token> tokens;
        int at;

        PlateauText(String text) {
            tokens = tokens(text);
        }

        int number(int least, int most) {
            return tokens.get(at++).number(least, most);
        }

        Game read() {
            Game g = new Game();
            for (int n = 0;; n++) {
                Token t = tokens.get(at++);
                boolean plateau = t.text.equals("plateau");
                if (!plateau && !t.text.equals("person") && !t.text.equals("mill") && !t.text.equals("roof")) {
                    throw new Fault(t.place, 0);
                }
                if (plateau != (n == 0) || n >= 40) {
                    throw new Fault(t.place, 4);
                }
                one(g, t);
                Token next = tokens.get(at++);
                if (next.text.isEmpty()) {
                    g.wind = new int[g.side * g.side];
                    return g;
                }
                if (!next.text.equals(";")) {
                    throw new Fault(next.place, 0);
                }
            }
        }

        void one(Game g, Token t) {
            int last = g.side * g.side - 1;
            if (t.text.equals("plateau")) {
                g.side = number(2, 6);
                g.caught = number(1, 9);
            } else if (t.text.equals("person")) {
                tooMany(g.people.size() == 6, t);
                Person p = new Person();
                p.cell = number(0, last);
                p.steady = number(0, 20);
                p.faces = number(0, 3);
                g.people.add(p);
            } else if (t.text.equals("mill")) {
                tooMany(g.mills.size() == 4, t);
                Mill m = new Mill();
                m.cell = number(0, last);
                m.can = number(1, 20);
                g.mills.add(m);
            } else {
                tooMany(g.roofs.size() == 4, t);
                Roof r = new Roof();
                r.cell = number(0, last);
                r.holds = number(0, 40);
                g.roofs.add(r);
            }
        }

        void tooMany(boolean are, Token t) {
            if (are) {
                throw new Fault(t.place, 4);
            }
        }
    }

    static final class RuleText {
        final List<Token> tokens;
        int at;
        int things;

        RuleText(String text) {
            tokens = tokens(text);
        }

        String now() {
            return tokens.get(at).text;
        }

        int place() {
            return tokens.get(at).place;
        }

        boolean take(String text) {
            if (!now().equals(text)) {
                return false;
            }
            at++;
            return true;
        }

        void thing() {
            if (++things > 60) {
                throw new Fault(place(), 3);
            }
        }

        List<Clause> read() {
            List<Clause> all = new ArrayList<>();
            do {
                if (!now().equals("whim")) {
                    throw new Fault(place(), 0);
                }
                if (all.size() == 12) {
                    throw new Fault(place(), 4);
                }
                at++;
                Clause c = new Clause();
                c.sum = sum();
                if (take("if")) {
                    c.test = test(0);
                }
                all.add(c);
            } while (take(";"));
            if (!now().isEmpty()) {
                throw new Fault(place(), 0);
            }
            return all;
        }

        Test test(int depth) {
            Test left = part(depth);
            while (take("or")) {
                Test a = left;
                Test b = part(depth);
                left = (g, p) -> a.holds(g, p) || b.holds(g, p);
            }
            return left;
        }

        Test part(int depth) {
            Test left = fact(depth);
            while (take("and")) {
                Test a = left;
                Test b = fact(depth);
                left = (g, p) -> a.holds(g, p) && b.holds(g, p);
            }
            return left;
        }

        Test fact(int depth) {
            boolean not = now().equals("not");
            if (not || now().equals("[")) {
                if (depth == 10) {
                    throw new Fault(place(), 2);
                }
                at++;
                if (not) {
                    Test a = fact(depth + 1);
                    return (g, p) -> !a.holds(g, p);
                }
                Test a = test(depth + 1);
                if (!take("]")) {
                    throw new Fault(place(), 0);
                }
                return a;
            }
            Sum a = sum();
            String sign = now();
            if (!List.of("<", "<=", "=", ">=", ">").contains(sign)) {
                throw new Fault(place(), 0);
            }
            thing();
            at++;
            Sum b = sum();
            switch (sign) {
                case "<":
                    return (g, p) -> a.of(g, p) < b.of(g, p);
                case "<=":
                    return (g, p) -> a.of(g, p) <= b.of(g, p);
                case "=":
                    return (g, p) -> a.of(g, p) == b.of(g, p);
                case ">=":
                    return (g, p) -> a.of(g, p) >= b.of(g, p);
                default:
                    return (g, p) -> a.of(g, p) > b.of(g, p);
            }
        }

        Sum sum() {
            Sum left = term();
            while (true) {
                Sum a = left;
                if (take("+")) {
                    Sum b = term();
                    left = (g, p) -> a.of(g, p) + b.of(g, p);
                } else if (take("-")) {
                    Sum b = term();
                    left = (g, p) -> a.of(g, p) - b.of(g, p);
                } else {
                    return left;
                }
            }
        }

        Sum term() {
            Sum left = value();
            while (true) {
                Sum a = left;
                if (take("*")) {
                    Sum b = value();
                    left = (g, p) -> a.of(g, p) * b.of(g, p);
                } else if (take("/")) {
                    Sum b = value();
                    left = (g, p) -> b.of(g, p) == 0 ? 0 : a.of(g, p) / b.of(g, p);
                } else if (take("%")) {
                    Sum b = value();
                    left = (g, p) -> b.of(g, p) == 0 ? 0 : a.of(g, p) % b.of(g, p);
                } else {
                    return left;
                }
            }
        }

        Sum value() {
            Token t = tokens.get(at);
            Sum value;
            if (t.isNumber()) {
                long n = t.number(0, 99999);
                value = (g, p) -> n;
            } else {
                value = word(t.text);
                if (value == null) {
                    throw new Fault(t.place, 0);
                }
            }
            thing();
            at++;
            return value;
        }

        static Sum word(String text) {
            switch (text) {
                case "person":
                    return (g, p) -> p;
                case "urge":
                    return (g, p) -> g.people.get(p).urge;
                case "steady":
                    return (g, p) -> g.people.get(p).steady;
                case "faces":
                    return (g, p) -> g.people.get(p).faces;
                case "row":
                    return (g, p) -> g.people.get(p).cell / g.side;
                case "column":
                    return (g, p) -> g.people.get(p).cell % g.side;
                case "wind":
                    return (g, p) -> g.wind[g.people.get(p).cell];
                case "acted":
                    return (g, p) -> g.people.get(p).acted;
                case "since":
                    return (g, p) -> g.people.get(p).since;
                case "ground":
                    return (g, p) -> g.ground();
                case "off":
                    return (g, p) -> Integer.bitCount(g.off());
                case "hour":
                    return (g, p) -> g.hour;
                default:
                    return null;
            }
        }
    }

    /** All that an IMAGE holds. */
    static final class Shot {
        Game told;
        Game game;
        int force = -1;
        int x;
        List<int[]> notes = new ArrayList<>();
        Deque<Game> acts = new ArrayDeque<>();

        Shot copy() {
            Shot s = new Shot();
            s.told = told;
            s.game = game == null ? null : game.copy();
            s.force = force;
            s.x = x;
            s.notes.addAll(notes);
            for (Game g : acts) {
                s.acts.addLast(g.copy());
            }
            return s;
        }
    }

    /** The second reading. */
    static final class Model {
        final StringBuilder tape = new StringBuilder();
        final List<List<Clause>> rules = new ArrayList<>();
        final Shot[] images = new Shot[4];
        Shot s = new Shot();

        List<Clause> rule() {
            return byNumber(s.force);
        }

        List<Clause> byNumber(int r) {
            return r < 0 ? null : rules.get(r);
        }

        int people() {
            return s.game == null ? 0 : s.game.people.size();
        }

        int mills() {
            return s.game == null ? 0 : s.game.mills.size();
        }

        int roofs() {
            return s.game == null ? 0 : s.game.roofs.size();
        }

        int cells() {
            return s.game == null ? 0 : s.game.side * s.game.side;
        }

        static boolean in(int v, int least, int below) {
            return v >= least && v < below;
        }

        void act() {
            s.acts.addLast(s.game.copy());
            if (s.acts.size() > 20) {
                s.acts.removeFirst();
            }
        }

        Game later(Game from, int n, int kept) {
            for (int i = 0; i < n; i++) {
                from.pass(rule(), kept);
            }
            return from;
        }

        int call(String name, int[] a) {
            switch (name) {
                case "feed":
                    return feed(a);
                case "end":
                    return end(a[0]);
                case "plateau":
                    return plateau();
                case "rule":
                    return tellRule();
                case "force":
                    return force(a[0]);
                case "person":
                case "mill":
                case "roof":
                case "wind":
                case "count":
                    return state(name, a);
                case "hour":
                case "wine":
                case "place":
                case "face":
                case "mend":
                case "undo":
                    return act(name, a);
                case "note":
                    return note(a[0], a[1], a[2]);
                case "seed":
                    return seed(a[0]);
                case "image":
                    return image(a[0]);
                case "back":
                    return back(a[0]);
                default:
                    return asked(name, a);
            }
        }

        int feed(int[] a) {
            if (tape.length() + 20 > 400) {
                return -1;
            }
            for (int n : a) {
                tape.append((char) (n >>> 24)).append((char) (n >> 16 & 255));
                tape.append((char) (n >> 8 & 255)).append((char) (n & 255));
            }
            return tape.length();
        }

        int end(int n) {
            if (n < 0 || n > tape.length()) {
                return -1;
            }
            tape.setLength(n);
            return n;
        }

        int plateau() {
            String text = tape.toString();
            tape.setLength(0);
            try {
                Game told = new PlateauText(text).read();
                s.told = told;
                s.game = told.copy();
                s.notes.clear();
                s.acts.clear();
                return told.people.size();
            } catch (Fault f) {
                return -2 - f.told;
            }
        }

        int tellRule() {
            if (rules.size() == 6) {
                return -1;
            }
            String text = tape.toString();
            tape.setLength(0);
            try {
                rules.add(new RuleText(text).read());
                return rules.size() - 1;
            } catch (Fault f) {
                return -2 - f.told;
            }
        }

        int force(int r) {
            if (!in(r, -1, rules.size())) {
                return -2;
            }
            int was = s.force;
            s.force = r;
            return was;
        }

        int state(String name, int[] a) {
            Game g = s.game;
            if (name.equals("person")) {
                if (!in(a[0], 0, people()) || !in(a[1], 0, 6)) {
                    return -1;
                }
                Person p = g.people.get(a[0]);
                return new int[] {p.cell, p.steady, p.faces, p.urge, p.acted, p.since}[a[1]];
            }
            if (name.equals("mill")) {
                if (!in(a[0], 0, mills()) || !in(a[1], 0, 3)) {
                    return -1;
                }
                Mill m = g.mills.get(a[0]);
                return new int[] {m.cell, m.can, m.ground}[a[1]];
            }
            if (name.equals("roof")) {
                if (!in(a[0], 0, roofs()) || !in(a[1], 0, 3)) {
                    return -1;
                }
                Roof r = g.roofs.get(a[0]);
                return new int[] {r.cell, r.holds, r.off ? 1 : 0}[a[1]];
            }
            if (name.equals("wind")) {
                return in(a[0], 0, cells()) ? g.wind[a[0]] : -1;
            }
            return count(a[0]);
        }

        int count(int what) {
            Game g = s.game == null ? new Game() : s.game;
            int acted = g.people.stream().mapToInt(p -> p.acted).sum();
            int[] all = {g.side, g.caught, g.people.size(), g.mills.size(), g.roofs.size(), rules.size(), s.force,
                g.hour, g.ground(), g.off(), g.windAll(), acted, s.notes.size(), s.acts.size(), s.x, tape.length()};
            return in(what, 0, 16) ? all[what] : -1;
        }

        int act(String name, int[] a) {
            Game g = s.game;
            switch (name) {
                case "hour":
                    if (g == null || g.hour == 999) {
                        return -1;
                    }
                    act();
                    return g.pass(rule(), -1);
                case "wine":
                    if (!in(a[0], 0, people()) || !in(a[1], 1, 10)) {
                        return -1;
                    }
                    act();
                    return g.people.get(a[0]).urge = Math.min(99, g.people.get(a[0]).urge + a[1]);
                case "place":
                    if (!in(a[0], 0, people()) || !in(a[1], 0, cells()) || g.people.get(a[0]).cell == a[1]) {
                        return -1;
                    }
                    act();
                    int stood = g.people.get(a[0]).cell;
                    g.people.get(a[0]).cell = a[1];
                    return stood;
                case "face":
                    if (!in(a[0], 0, people()) || !in(a[1], 0, 4) || g.people.get(a[0]).faces == a[1]) {
                        return -1;
                    }
                    act();
                    int faced = g.people.get(a[0]).faces;
                    g.people.get(a[0]).faces = a[1];
                    return faced;
                case "mend":
                    if (!in(a[0], 0, roofs()) || !g.roofs.get(a[0]).off) {
                        return -1;
                    }
                    act();
                    g.roofs.get(a[0]).off = false;
                    return Integer.bitCount(g.off());
                default:
                    if (s.acts.isEmpty()) {
                        return -2;
                    }
                    s.game = s.acts.removeLast();
                    return s.acts.size();
            }
        }

        int note(int n, int cell, int wind) {
            if (n == -1) {
                s.notes.clear();
                return 0;
            }
            if (!in(n, 0, 61) || !in(cell, 0, cells()) || !in(wind, 0, 1000) || s.notes.size() == 10) {
                return -2;
            }
            s.notes.add(new int[] {n, cell, wind});
            return s.notes.size();
        }

        int seed(int x) {
            if (x < 0) {
                return -1;
            }
            int was = s.x;
            s.x = x;
            return was;
        }

        int image(int k) {
            if (!in(k, 0, 4)) {
                return -1;
            }
            images[k] = s.copy();
            return s.game == null ? 0 : s.game.hour;
        }

        int back(int k) {
            if (!in(k, 0, 4) || images[k] == null) {
                return -1;
            }
            s = images[k].copy();
            return s.game == null ? 0 : s.game.hour;
        }

        int asked(String name, int[] a) {
            switch (name) {
                case "ahead":
                    return ahead(a[0], a[1], a[2]);
                case "whim":
                    return in(a[0], 0, people()) ? first(1 << a[0], 1) : -1;
                case "storm":
                    return s.game != null && in(a[0], 1, 7) ? first(63, a[0]) : -1;
                case "stand":
                    return stand(a[0], a[1], a[2]);
                case "turn":
                    return turn(a[0], a[1], a[2]);
                case "takes":
                    return takes(a[0], a[1], a[2], a[3]);
                case "blown":
                    return blown(a[0], a[1], a[2]);
                case "still":
                    return still(a[0], a[1]);
                case "lull":
                    return lull(a[0], a[1]);
                case "harvest":
                    return harvest(a[0], a[1]);
                case "rests":
                    return rests(a[0], a[1], a[2], a[3]);
                case "pence":
                    return pence(a[0], a[1]);
                case "ruled":
                    return ruled(a[0]);
                case "look":
                    return look(a[0], a[1]);
                default:
                    return notions(a[0], a[1], a[2], a[3]);
            }
        }

        int ahead(int number, int n, int what) {
            int[] bound = {people(), mills(), cells()};
            if (s.game == null || !in(n, 0, 101) || !in(what, 0, 4) || what < 3 && !in(number, 0, bound[what])) {
                return -1;
            }
            Game g = later(s.game.copy(), n, -1);
            switch (what) {
                case 0:
                    return g.people.get(number).urge;
                case 1:
                    return g.mills.get(number).ground;
                case 2:
                    return g.wind[number];
                default:
                    return g.off();
            }
        }

        int first(int who, int k) {
            Game g = s.game.copy();
            for (int i = 0; i < 100; i++) {
                int at = g.hour;
                if (Integer.bitCount(g.pass(rule(), -1) & who) >= k) {
                    return at;
                }
            }
            return -2;
        }

        /** Of ways by number the best one's number, ROOFS, and GROUND. */
        int best(Map<Integer, Game> ways, int what) {
            int best = ways.keySet().iterator().next();
            for (int way : ways.keySet()) {
                int fewer = Integer.bitCount(ways.get(best).off()) - Integer.bitCount(ways.get(way).off());
                int more = ways.get(way).ground() - ways.get(best).ground();
                if (fewer > 0 || fewer == 0 && more > 0) {
                    best = way;
                }
            }
            Game g = ways.get(best);
            return new int[] {best, Integer.bitCount(g.off()), g.ground()}[what];
        }

        int stand(int person, int n, int what) {
            if (!in(person, 0, people()) || !in(n, 1, 61) || !in(what, 0, 3)) {
                return -1;
            }
            Map<Integer, Game> ways = new TreeMap<>();
            for (int cell = 0; cell < cells(); cell++) {
                Game g = s.game.copy();
                g.people.get(person).cell = cell;
                ways.put(cell, later(g, n, -1));
            }
            return best(ways, what);
        }

        int turn(int person, int n, int what) {
            if (!in(person, 0, people()) || !in(n, 1, 61) || !in(what, 0, 3)) {
                return -1;
            }
            Map<Integer, Game> ways = new TreeMap<>();
            for (int way = 0; way < 4; way++) {
                Game g = s.game.copy();
                g.people.get(person).faces = way;
                ways.put(way, later(g, n, -1));
            }
            return best(ways, what);
        }

        int still(int n, int what) {
            if (s.game == null || !in(n, 1, 61) || !in(what, 0, 3)) {
                return -2;
            }
            Map<Integer, Game> ways = new TreeMap<>();
            for (int kept = -1; kept < people(); kept++) {
                ways.put(kept, later(s.game.copy(), n, kept));
            }
            return best(ways, what);
        }

        int takes(int person, int mill, int amount, int n) {
            if (!in(person, 0, people()) || !in(mill, 0, mills()) || !in(amount, 1, 10000) || !in(n, 1, 61)) {
                return -1;
            }
            for (int more = 0; more <= 40; more++) {
                Game g = s.game.copy();
                g.people.get(person).urge = Math.min(99, g.people.get(person).urge + more);
                if (later(g, n, -1).mills.get(mill).ground >= amount) {
                    return more;
                }
            }
            return -2;
        }

        int blown(int cell, int wind, int what) {
            if (!in(cell, 0, cells()) || !in(wind, 0, 1000) || !in(what, 0, 3)) {
                return -3;
            }
            List<Integer> sets = new ArrayList<>();
            for (int set = 0; set < 1 << people(); set++) {
                int sum = 0;
                for (int p = 0; p < people(); p++) {
                    sum += (set >> p & 1) * s.game.puffIn(s.game.people.get(p), cell);
                }
                if (sum == wind) {
                    sets.add(set);
                }
            }
            if (what == 0) {
                return sets.size();
            }
            if (what == 1) {
                return sets.isEmpty() ? -2 : sets.get(0);
            }
            return sets.isEmpty() ? 0 : sets.stream().reduce(63, (b, c) -> b & c);
        }

        int lull(int n, int what) {
            if (s.game == null || !in(n, 1, 101) || !in(what, 0, 2)) {
                return -1;
            }
            Game g = s.game.copy();
            StringBuilder calm = new StringBuilder();
            for (int i = 0; i < n; i++) {
                g.pass(rule(), -1);
                calm.append(g.windAll() == 0 ? '.' : '!');
            }
            int most = n;
            while (calm.indexOf(".".repeat(most)) < 0) {
                most--;
            }
            return what == 0 ? most : most == 0 ? -2 : s.game.hour + calm.indexOf(".".repeat(most));
        }

        int harvest(int n, int what) {
            if (s.game == null || !in(n, 1, 101) || !in(what, 0, 2)) {
                return -1;
            }
            Game g = s.game.copy();
            int[] all = new int[n];
            for (int i = 0; i < n; i++) {
                g.pass(rule(), -1);
                all[i] = g.windAll();
            }
            int most = Arrays.stream(all).max().getAsInt();
            int when = 0;
            while (all[when] != most) {
                when++;
            }
            return what == 0 ? s.game.hour + when : most;
        }

        int[] played(int one, int other, int a, int b, int n) {
            Game g = s.game.copy();
            g.people.get(one).faces = a;
            g.people.get(other).faces = b;
            int[] has = new int[2];
            for (int i = 0; i < n; i++) {
                int bits = g.pass(rule(), -1);
                has[0] += bits >> one & 1;
                has[1] += bits >> other & 1;
            }
            return has;
        }

        int rests(int one, int other, int n, int what) {
            if (!in(one, 0, people()) || !in(other, 0, people()) || one == other || !in(n, 1, 21) || !in(what, 0, 3)) {
                return -1;
            }
            int many = 0;
            int[] first = null;
            for (int a = 0; a < 4; a++) {
                for (int b = 0; b < 4; b++) {
                    int[] has = played(one, other, a, b, n);
                    boolean rest = true;
                    for (int c = 0; c < 4; c++) {
                        rest &= played(one, other, c, b, n)[0] <= has[0];
                        rest &= played(one, other, a, c, n)[1] <= has[1];
                    }
                    if (rest) {
                        many++;
                        first = first == null ? new int[] {a, b} : first;
                    }
                }
            }
            return what == 0 ? many : first == null ? -2 : first[what - 1];
        }

        int pence(int much, int person) {
            if (!in(person, 0, people()) || !in(much, 0, 10000)) {
                return -1;
            }
            int all = count(11);
            if (all == 0) {
                return 0;
            }
            int[] part = new int[people()];
            int[] lost = new int[people()];
            int left = much;
            for (int p = 0; p < part.length; p++) {
                part[p] = much * s.game.people.get(p).acted / all;
                lost[p] = much * s.game.people.get(p).acted - part[p] * all;
                left -= part[p];
            }
            for (; left > 0; left--) {
                int next = 0;
                for (int p = 0; p < part.length; p++) {
                    next = lost[p] > lost[next] ? p : next;
                }
                part[next]++;
                lost[next] = -1;
            }
            return part[person];
        }

        List<Integer> fitting() {
            List<Integer> all = new ArrayList<>();
            for (int r = -1; r < rules.size(); r++) {
                boolean so = true;
                for (int[] note : s.notes) {
                    so &= windAt(r, note[0])[note[1]] == note[2];
                }
                if (so) {
                    all.add(r);
                }
            }
            return all;
        }

        int[] windAt(int r, int n) {
            Game g = s.told.copy();
            for (int i = 0; i <= n; i++) {
                g.pass(byNumber(r), -1);
            }
            return g.wind;
        }

        int ruled(int what) {
            if (s.game == null || !in(what, 0, 2)) {
                return -3;
            }
            List<Integer> all = fitting();
            return what == 0 ? all.size() : all.isEmpty() ? -2 : all.get(0);
        }

        int look(int n, int what) {
            if (s.game == null || !in(n, 0, 61) || !in(what, 0, 2)) {
                return -1;
            }
            List<Integer> all = fitting();
            if (all.isEmpty()) {
                return -2;
            }
            int best = -1;
            int fewest = 99;
            for (int cell = 0; cell < cells(); cell++) {
                Map<Integer, Integer> alike = new HashMap<>();
                for (int r : all) {
                    alike.merge(windAt(r, n)[cell], 1, Integer::sum);
                }
                int most = alike.values().stream().mapToInt(v -> v).max().getAsInt();
                if (most < fewest) {
                    fewest = most;
                    best = cell;
                }
            }
            return what == 0 ? best : fewest;
        }

        int notions(int m, int n, int p, int what) {
            if (s.game == null || !in(m, 1, 11) || !in(n, 1, 61) || !in(p, 0, 101) || !in(what, 0, 2)) {
                return -1;
            }
            int kept = s.x;
            int ground = 0;
            int roofs = 0;
            for (int i = 0; i < m; i++) {
                Game g = s.game.copy();
                for (int h = 0; h < n; h++) {
                    if (draw() % 100 < p && people() > 0) {
                        Person who = g.people.get(draw() % people());
                        who.urge = Math.min(99, who.urge + 9);
                    }
                    g.pass(rule(), -1);
                }
                ground += g.ground() - s.game.ground();
                roofs += Integer.bitCount(g.off());
            }
            s.x = kept;
            return what == 0 ? ground : roofs;
        }

        int draw() {
            s.x = (int) ((s.x * 1103515245L + 12345) % 2147483648L);
            return s.x / 65536;
        }
    }

    static int real(WhimWind x, String name, int[] a) {
        switch (name) {
            case "feed":
                return x.feed(a[0], a[1], a[2], a[3], a[4]);
            case "end":
                return x.end(a[0]);
            case "plateau":
                return x.plateau();
            case "rule":
                return x.rule();
            case "force":
                return x.force(a[0]);
            case "person":
                return x.person(a[0], a[1]);
            case "mill":
                return x.mill(a[0], a[1]);
            case "roof":
                return x.roof(a[0], a[1]);
            case "wind":
                return x.wind(a[0]);
            case "hour":
                return x.hour();
            case "wine":
                return x.wine(a[0], a[1]);
            case "place":
                return x.place(a[0], a[1]);
            case "face":
                return x.face(a[0], a[1]);
            case "mend":
                return x.mend(a[0]);
            case "undo":
                return x.undo();
            default:
                return realAsked(x, name, a);
        }
    }

    static int realAsked(WhimWind x, String name, int[] a) {
        switch (name) {
            case "ahead":
                return x.ahead(a[0], a[1], a[2]);
            case "whim":
                return x.whim(a[0]);
            case "storm":
                return x.storm(a[0]);
            case "stand":
                return x.stand(a[0], a[1], a[2]);
            case "turn":
                return x.turn(a[0], a[1], a[2]);
            case "takes":
                return x.takes(a[0], a[1], a[2], a[3]);
            case "blown":
                return x.blown(a[0], a[1], a[2]);
            case "still":
                return x.still(a[0], a[1]);
            case "lull":
                return x.lull(a[0], a[1]);
            case "harvest":
                return x.harvest(a[0], a[1]);
            case "rests":
                return x.rests(a[0], a[1], a[2], a[3]);
            case "pence":
                return x.pence(a[0], a[1]);
            case "note":
                return x.note(a[0], a[1], a[2]);
            case "ruled":
                return x.ruled(a[0]);
            case "look":
                return x.look(a[0], a[1]);
            case "seed":
                return x.seed(a[0]);
            case "notions":
                return x.notions(a[0], a[1], a[2], a[3]);
            case "count":
                return x.count(a[0]);
            case "image":
                return x.image(a[0]);
            default:
                return x.back(a[0]);
        }
    }

    /** Draws calls that are mostly within bounds. */
    static final class Drawer {
        private static final String[] WORDS = {"person", "urge", "steady", "faces", "row", "column", "wind", "acted",
            "since", "ground", "off", "hour"};
        private static final String[] SIGNS = {"<", "<=", "=", ">=", ">"};
        private static final String[] ODD = {"[", "]", "not ", "and ", "or ", "if ", "whim ", "person ", "plateau ",
            "mill ", "roof ", ";", "<", "=", ">", "<=", "+", "*", "123456", "99999", "00007", "urgent", "\0",
            "\u00e9", "A", "{", "`", "/", ":", "  ", "1", "x"};
        final Random r;
        final boolean hot;

        Drawer(long seed) {
            r = new Random(seed);
            hot = r.nextInt(3) == 0;
        }

        int num(int least, int most) {
            int odd = r.nextInt(40);
            if (odd == 0) {
                return least - 1;
            }
            if (odd == 1) {
                return most + 1;
            }
            if (odd == 2) {
                return r.nextInt();
            }
            return most < least ? least : least + r.nextInt(most - least + 1);
        }

        int told(int least, int most) {
            return r.nextInt(300) == 0 ? r.nextInt(200000) : least + r.nextInt(most - least + 1);
        }

        String gap() {
            return r.nextInt(4) == 0 ? "  " : r.nextInt(3) == 0 ? " " : "";
        }

        String odd(String text) {
            if (r.nextInt(8) != 0) {
                return text;
            }
            int at = r.nextInt(text.length() + 1);
            int to = Math.min(text.length(), at + r.nextInt(4));
            String put = r.nextInt(3) == 0 ? "" : ODD[r.nextInt(ODD.length)];
            return r.nextInt(4) == 0 ? text.substring(0, at) : text.substring(0, at) + put + text.substring(to);
        }

        /** One of the CELLS; of small ones in hot runs, so that people are in one another's wind. */
        int cell(int side) {
            int cells = Math.max(1, Math.min(5000, side * side));
            return told(0, hot ? Math.min(side, cells) - 1 : cells - 1);
        }

        String plateau() {
            int side = told(2, 6);
            StringBuilder b = new StringBuilder("plateau " + side + " " + (hot ? told(1, 2) : told(1, 9)));
            int most = r.nextInt(20) == 0 ? 99 : 0;
            int people = Math.max(most, r.nextInt(8) == 0 ? 0 : 1 + r.nextInt(6));
            int mills = Math.max(most, r.nextInt(5));
            int roofs = Math.max(most, r.nextInt(5));
            for (int i = 0; i < 16; i++) {
                int kind = r.nextInt(4);
                if (kind < 2 && people-- > 0) {
                    b.append(gap() + ";" + gap() + "person" + gap() + cell(side) + " " + told(0, hot ? 4 : 20));
                    b.append(" " + (hot ? 1 + 2 * r.nextInt(2) : told(0, 3)));
                } else if (kind == 2 && mills-- > 0) {
                    b.append(gap() + ";mill " + cell(side) + " " + told(1, 20));
                } else if (kind == 3 && roofs-- > 0) {
                    b.append(";" + gap() + "roof " + cell(side) + gap() + " " + told(0, r.nextBoolean() ? 5 : 40));
                }
            }
            return odd(b.toString());
        }

        String value() {
            if (r.nextInt(2) == 0) {
                return gap() + WORDS[r.nextInt(12)] + gap();
            }
            return gap() + (r.nextInt(20) == 0 ? 99999 : r.nextInt(12)) + gap();
        }

        String sum() {
            StringBuilder b = new StringBuilder(value());
            for (int i = r.nextInt(6) - 2; i > 0; i--) {
                b.append("+-*/%".charAt(r.nextInt(5))).append(value());
            }
            return b.toString();
        }

        String fact(int depth) {
            int kind = r.nextInt(depth > 6 ? 12 : 6);
            if (kind == 0 && depth < 12) {
                return gap() + "not " + fact(depth + 1);
            }
            if (kind == 1 && depth < 12) {
                return gap() + "[" + test(depth + 1) + "]" + gap();
            }
            return sum() + SIGNS[r.nextInt(5)] + sum();
        }

        String test(int depth) {
            StringBuilder b = new StringBuilder(fact(depth));
            for (int i = r.nextInt(5) - 2; i > 0; i--) {
                b.append(r.nextBoolean() ? " and " : " or ").append(fact(depth));
            }
            return b.toString();
        }

        String deep() {
            StringBuilder b = new StringBuilder("whim 1 if ");
            int most = 8 + r.nextInt(4);
            StringBuilder close = new StringBuilder();
            for (int i = 0; i < most; i++) {
                boolean not = r.nextBoolean();
                b.append(not ? "not " : "[");
                close.append(not ? "" : "]");
            }
            return odd(b + "urge > " + r.nextInt(9) + close + (r.nextBoolean() ? " and not not urge>1" : ""));
        }

        String longOne() {
            StringBuilder b = new StringBuilder("whim urge");
            int items = 55 + r.nextInt(10);
            for (int i = 1; i < items; i++) {
                b.append(r.nextInt(9) == 0 ? " if 1" : "+1");
                if (b.indexOf("if") >= 0 && r.nextInt(6) == 0) {
                    b.append(">=0 and 2");
                }
            }
            return b.toString();
        }

        /** Rules by which somebody gives way now and then. */
        String likely() {
            String[] sums = {"urge - steady", "urge*2-" + r.nextInt(20), "urge %" + (1 + r.nextInt(9)) + " - 1",
                "1", "since-" + r.nextInt(9), "hour % 5 - person", "wind + urge - " + r.nextInt(9), "0", "0 - 1"};
            String[] tests = {"urge > " + r.nextInt(9), "since >= " + r.nextInt(12) + " and urge>2", "wind > 0",
                "not off > 0", "[person = 1 or person = 3] and hour % 3 = 0", "ground < 50", "acted<9 or urge>=20",
                "row + column < 5 and not faces = 2"};
            StringBuilder b = new StringBuilder();
            for (int i = r.nextInt(3); i > 0; i--) {
                b.append("whim " + sums[r.nextInt(9)] + " if " + tests[r.nextInt(8)] + ";");
            }
            return odd(b + "whim " + sums[r.nextInt(9)]);
        }

        String rule() {
            int kind = r.nextInt(20);
            if (kind == 0) {
                return deep();
            }
            if (kind == 1) {
                return longOne();
            }
            if (kind < 9) {
                return likely();
            }
            StringBuilder b = new StringBuilder();
            int clauses = r.nextInt(25) == 0 ? 11 + r.nextInt(4) : 1 + r.nextInt(3);
            for (int i = 0; i < clauses; i++) {
                b.append(i == 0 ? "" : ";").append(gap()).append("whim ").append(clauses > 5 ? "1" : sum());
                if (r.nextInt(4) != 0 && clauses < 5) {
                    b.append(" if ").append(test(0));
                }
            }
            return odd(b.toString());
        }
    }

    private static int wrong = 0;
    private static final Map<String, Map<Integer, Integer>> SEEN = new TreeMap<>();

    /** One run: the same calls on the program and on the model. */
    static final class Run {
        final int number;
        final Drawer d;
        final WhimWind x = new WhimWind();
        final Model m = new Model();
        final StringBuilder story = new StringBuilder();
        int calls;
        boolean same = true;

        Run(int number) {
            this.number = number;
            d = new Drawer(number * 7919L + 13);
        }

        int call(String name, int... a) {
            if (!same || calls >= CALLS) {
                return 0;
            }
            calls++;
            int due = m.call(name, a);
            int got = real(x, name, a);
            story.append(name).append(Arrays.toString(a)).append(" = ").append(due).append('\n');
            SEEN.computeIfAbsent(name, k -> new HashMap<>()).merge(due, 1, Integer::sum);
            if (got != due) {
                same = false;
                wrong++;
                if (wrong < 4) {
                    System.out.println("run " + number + ": " + name + Arrays.toString(a) + " answered " + got
                        + ", due is " + due + "\n" + story);
                }
            }
            return due;
        }

        void tell(String text) {
            for (int at = 0; at < text.length(); at += 20) {
                int[] a = new int[5];
                for (int i = 0; i < 20; i++) {
                    int c = at + i < text.length() ? text.charAt(at + i) : 0;
                    a[i / 4] = a[i / 4] << 8 | c;
                }
                call("feed", a);
            }
            call("end", text.length() - (d.r.nextInt(60) == 0 ? 1 : 0));
        }

        void tellPlateau() {
            for (int i = 0; i < 9; i++) {
                tell(d.r.nextInt(20) == 0 ? d.rule() : d.plateau());
                if (call("plateau") >= 0) {
                    return;
                }
            }
        }

        void tellRule() {
            tell(d.rule());
            int r = call("rule");
            if (d.r.nextInt(2) == 0) {
                call("force", r);
            }
        }

        void go() {
            for (int i = d.r.nextInt(4); i > 0; i--) {
                tellRule();
            }
            if (d.r.nextInt(20) != 0) {
                tellPlateau();
            }
            for (int i = 0; i < 2000 && same && calls < CALLS; i++) {
                step();
            }
            all();
        }

        void step() {
            int person = d.num(0, m.people() - 1);
            int cell = d.num(0, m.cells() - 1);
            int n60 = d.r.nextInt(3) == 0 ? d.num(1, 60) : d.num(1, 12);
            int n100 = d.num(1, d.r.nextInt(3) == 0 ? 100 : 15);
            int what2 = d.num(0, 1);
            int what3 = d.num(0, 2);
            switch (d.r.nextInt(45)) {
                case 0:
                    if (d.r.nextInt(6) == 0) {
                        tellPlateau();
                    }
                    break;
                case 1:
                    tellRule();
                    break;
                case 2:
                    call("force", d.num(-1, m.rules.size() - 1));
                    break;
                case 3:
                    call("mend", d.num(0, m.roofs() - 1));
                    break;
                case 4:
                case 5:
                    call("undo");
                    break;
                case 6:
                    call("wine", person, d.num(1, 9));
                    break;
                case 7:
                    call("place", person, cell);
                    break;
                case 8:
                    call("face", person, d.num(0, 3));
                    break;
                case 9:
                    ahead();
                    break;
                case 10:
                    call("whim", person);
                    break;
                case 11:
                    call("storm", d.num(1, 6));
                    break;
                case 12:
                    call("stand", person, n60, what3);
                    break;
                case 13:
                    call("turn", person, n60, what3);
                    break;
                case 14:
                    call("takes", person, d.num(0, m.mills() - 1), amount(), n60);
                    break;
                case 15:
                case 16:
                    call("blown", cell, likelyWind(cell), what3);
                    break;
                case 17:
                    call("still", n60, what3);
                    break;
                case 18:
                    call("lull", n100, what2);
                    break;
                case 19:
                    call("harvest", n100, what2);
                    break;
                case 20:
                case 21:
                    call("rests", person, d.num(0, m.people() - 1), d.num(1, 20), what3);
                    break;
                case 22:
                case 23:
                    call("pence", d.num(0, d.r.nextBoolean() ? 30 : 9999), person);
                    break;
                case 24:
                case 25:
                    note(cell);
                    break;
                case 26:
                    call("ruled", what2);
                    break;
                case 27:
                    call("look", d.num(0, d.r.nextBoolean() ? 60 : 9), what2);
                    break;
                case 28:
                    call("seed", d.r.nextInt(5) == 0 ? -d.r.nextInt(9) : d.r.nextInt(Integer.MAX_VALUE));
                    break;
                case 29:
                    call("notions", d.num(1, 10), n60, d.num(0, 100), what2);
                    break;
                case 30:
                    call("image", d.num(0, 3));
                    break;
                case 31:
                    call("back", d.num(0, 3));
                    break;
                case 32:
                    call("person", person, d.num(0, 5));
                    break;
                case 33:
                    call("mill", d.num(0, 3), what3);
                    break;
                case 34:
                    call("roof", d.num(0, 3), what3);
                    break;
                case 35:
                    call("wind", cell);
                    break;
                case 36:
                    call("count", d.num(0, 15));
                    break;
                case 37:
                    if (d.r.nextInt(10) == 0) {
                        all();
                    }
                    break;
                default:
                    for (int i = d.r.nextInt(5); i >= 0; i--) {
                        call("hour");
                    }
                    break;
            }
            if (d.r.nextInt(12) == 0) {
                call(d.r.nextBoolean() ? "whim" : "mend", d.r.nextInt(4));
            }
        }

        int amount() {
            int ground = m.s.game == null ? 0 : m.s.game.ground();
            return d.r.nextInt(5) == 0 ? d.num(1, 9999) : d.num(1, 40) + ground / 2;
        }

        int likelyWind(int cell) {
            int wind = d.num(0, d.r.nextBoolean() ? 12 : 999);
            if (cell >= 0 && cell < m.cells() && d.r.nextInt(3) != 0) {
                wind = 0;
                for (Person p : m.s.game.people) {
                    wind += d.r.nextBoolean() ? m.s.game.puffIn(p, cell) : 0;
                }
            }
            return wind;
        }

        void ahead() {
            int what = d.num(0, 3);
            int most = what == 0 ? m.people() : what == 1 ? m.mills() : m.cells();
            call("ahead", d.num(0, most - 1), d.num(0, 100), what);
        }

        /** Notes are mostly so by some rule, lest none ever fits. */
        void note(int cell) {
            if (d.r.nextInt(5) == 0) {
                call("note", -1, 0, 0);
                return;
            }
            int n = d.num(0, d.r.nextBoolean() ? 60 : 12);
            int wind = d.num(0, 999);
            if (m.s.told != null && n >= 0 && n < 61 && cell >= 0 && cell < m.cells() && d.r.nextInt(6) != 0) {
                wind = m.windAt(d.r.nextInt(m.rules.size() + 1) - 1, n)[cell];
            }
            call("note", n, cell, wind);
        }

        void all() {
            for (int what = 0; what < 16; what++) {
                call("count", what);
            }
            for (int p = 0; p < m.people(); p++) {
                for (int what = 0; what < 6; what++) {
                    call("person", p, what);
                }
            }
            for (int cell = 0; cell < m.cells(); cell++) {
                call("wind", cell);
            }
            for (int k = 0; k < 4; k++) {
                call("mill", k, 2);
                call("roof", k, 2);
            }
        }
    }

    public static void main(String[] args) {
        int runs = args.length > 0 ? Integer.parseInt(args[0]) : RUNS;
        int from = args.length > 1 ? Integer.parseInt(args[1]) : 0;
        long calls = 0;
        for (int i = from; i < from + runs; i++) {
            Run run = new Run(i);
            run.go();
            calls += run.calls;
        }
        if (args.length > 2) {
            SEEN.forEach((name, seen) -> System.out.println(name + ": " + seen.size() + " answers "
                + (seen.size() < 40 ? new TreeMap<>(seen) : "")));
        }
        System.out.println(wrong == 0 ? calls + " calls are answered as the model does" : wrong + " runs are not as due");
        if (wrong != 0) {
            System.exit(1);
        }
    }
}
