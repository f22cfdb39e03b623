import java.util.function.Supplier;

/** What tests by hand have in common: objects to look at, and how is looked at them. */
abstract class Bench {
    static final int LEAST = Integer.MIN_VALUE;
    static final int MOST = Integer.MAX_VALUE;

    /** As much of all as there can be, each with the greatest numbers. */
    static final String FULL = "plateau 6 9" + many(";person 35 20 3", 6) + many(";mill 35 20", 4)
        + many(";roof 35 40", 4);

    static int wrong = 0;
    static int checks = 0;
    static int promise = 0;

    /** A call, or several, on an object; the last one's answer. */
    interface Call {
        int on(WhimWind x);
    }

    // ---- how is looked

    static void due(String what, int got, int want) {
        checks++;
        if (got != want) {
            wrong++;
            System.out.println("promise " + promise + ": " + what + " answered " + got + ", due is " + want);
        }
    }

    static void alike(String what, String got, String want) {
        checks++;
        if (!got.equals(want)) {
            wrong++;
            System.out.println("promise " + promise + ": " + what + ", but there is\n" + got + "\nfor\n" + want);
        }
    }

    /** A call on an object that has seen much answers so, and leaves all as it was. */
    static void leaves(String what, int want, Call call) {
        leaves(Bench::busy, what, want, call);
    }

    static void leaves(Supplier<WhimWind> maker, String what, int want, Call call) {
        WhimWind x = maker.get();
        due(what, call.on(x), want);
        alike(what + " leaves all as it was", everything(x), everything(maker.get()));
    }

    static void finish() {
        System.out.println(wrong == 0 ? checks + " answers are as due" : wrong + " answers are not as due");
        if (wrong != 0) {
            System.exit(1);
        }
    }

    /** All that can be known of an object: how it is, how it goes on, how it was, IMAGES, the TAPE, RULES. */
    static String everything(WhimWind x) {
        StringBuilder all = new StringBuilder();
        tellNow(x, all);
        tell(all, x.ruled(0), x.ruled(1), x.look(3, 0), x.look(3, 1), x.ahead(0, 20, 0), x.ahead(0, 20, 1), x.storm(2),
            x.notions(2, 5, 50, 0), x.notions(2, 5, 50, 1));
        for (int i = 0; i < 21 && x.count(13) > 0; i++) {
            all.append("\nundo ");
            tell(all, x.undo());
            tellState(x, all);
        }
        for (int k = 0; k < 4; k++) {
            all.append("\nback ");
            tell(all, x.back(k));
            tellNow(x, all);
        }
        all.append("\ntape ");
        tell(all, x.rule(), x.plateau());
        for (int r = 0; r < x.count(5); r++) {
            x.force(r);
            tell(all, x.ahead(0, 9, 0), x.storm(1));
        }
        return all.toString();
    }

    private static void tell(StringBuilder all, int... answers) {
        for (int answer : answers) {
            all.append(answer).append(' ');
        }
    }

    private static void tellNow(WhimWind x, StringBuilder all) {
        for (int what = 0; what < 16; what++) {
            tell(all, x.count(what));
        }
        for (int i = 0; i < 6; i++) {
            tell(all, x.person(i, 1), x.mill(i, 0), x.mill(i, 1), x.roof(i, 0), x.roof(i, 1));
        }
        tellState(x, all);
    }

    private static void tellState(WhimWind x, StringBuilder all) {
        tell(all, x.count(7), x.count(9), x.count(13));
        for (int p = 0; p < x.count(2); p++) {
            tell(all, x.person(p, 0), x.person(p, 2), x.person(p, 3), x.person(p, 4), x.person(p, 5));
        }
        for (int m = 0; m < x.count(3); m++) {
            tell(all, x.mill(m, 2));
        }
        for (int cell = 0; cell < x.count(0) * x.count(0); cell++) {
            tell(all, x.wind(cell));
        }
    }

    // ---- texts

    static String many(String text, int n) {
        return text.repeat(n);
    }

    /** A FAULT. */
    static int at(int place, int kind) {
        return 1 + 8 * place + kind;
    }

    /** A text comes behind the TAPE. */
    static void feedText(WhimWind x, String text) {
        int had = x.count(15);
        for (int at = 0; at < text.length(); at += 20) {
            int[] a = new int[5];
            for (int i = 0; i < 20; i++) {
                int c = at + i < text.length() ? text.charAt(at + i) & 255 : 0;
                a[i / 4] = a[i / 4] << 8 | c;
            }
            x.feed(a[0], a[1], a[2], a[3], a[4]);
        }
        due("a text that comes whole", x.end(had + text.length()), had + text.length());
    }

    static int tellPlateau(WhimWind x, String text) {
        feedText(x, text);
        return x.plateau();
    }

    static int tellRule(WhimWind x, String text) {
        feedText(x, text);
        return x.rule();
    }

    // ---- objects

    static WhimWind on(String text) {
        WhimWind x = new WhimWind();
        if (tellPlateau(x, text) < 0) {
            due("a plateau that is sound: " + text, -1, 0);
        }
        return x;
    }

    /** A plateau with a rule IN FORCE. */
    static WhimWind by(String text, String rule) {
        WhimWind x = on(text);
        due("a rule that is sound: " + rule, tellRule(x, rule), 0);
        x.force(0);
        return x;
    }

    static void hours(WhimWind x, int n) {
        for (int i = 0; i < n; i++) {
            x.hour();
        }
    }

    /** So much WINE, in as many calls as it takes. */
    static void wines(WhimWind x, int person, int much) {
        for (int left = much; left > 0; left -= 9) {
            x.wine(person, Math.min(9, left));
        }
    }

    /** HOUR 3, a ROOF OFF, six ACTS, two NOTES, two RULES, one of them IN FORCE, an IMAGE, and 33 bytes on the TAPE. */
    static WhimWind busy() {
        WhimWind x = busyWithoutTape();
        feedText(x, "whim 1 if urge > 4;whim since - 3");
        return x;
    }

    static WhimWind busyWithoutTape() {
        WhimWind x = on("plateau 3 2;person 3 2 1;person 5 3 3;person 8 20 0;mill 4 3;mill 5 5;roof 4 2;roof 2 40");
        tellRule(x, "whim urge - steady");
        tellRule(x, "whim urge - 4 if person = 1;whim 0");
        x.force(0);
        x.seed(9);
        hours(x, 2);
        x.note(2, 4, 3);
        x.image(1);
        x.hour();
        x.note(0, 0, 0);
        x.wine(0, 3);
        x.place(2, 6);
        x.face(1, 2);
        return x;
    }
}
