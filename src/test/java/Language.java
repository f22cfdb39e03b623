import java.lang.management.ManagementFactory;
import java.lang.reflect.Constructor;
import java.lang.reflect.Field;
import java.lang.reflect.Method;
import java.lang.reflect.Modifier;
import java.nio.file.Files;
import java.nio.file.Path;
import java.util.ArrayList;
import java.util.HashSet;
import java.util.List;
import java.util.Set;
import java.util.regex.Matcher;
import java.util.regex.Pattern;

/** Those rules of LANGUAGE.md, and of the one room for all calls, that can be looked at from outside. */
public final class Language {
    private static final Path SOURCE = Path.of("src/main/java/WhimWind.java");
    private static final String FACE = "feed/5 end/1 plateau/0 rule/0 force/1 person/2 mill/2 roof/2 wind/1 hour/0 wine/2 "
        + "place/2 face/2 mend/1 undo/0 ahead/3 whim/1 storm/1 stand/3 turn/3 takes/4 blown/3 still/2 lull/2 "
        + "harvest/2 rests/4 pence/2 note/3 ruled/1 look/2 seed/1 notions/4 count/1 image/1 back/1";
    private static final String[] BARRED = {"throw", "throws", "try", "catch", "finally", "synchronized", "assert", "->",
        "::", "double", "float", "Object", "Thread", "equals", "hashCode", "toString", "Exact", "package", "volatile",
        "native", "transient", "protected", "var"};
    private static int wrong = 0;

    private static void check(boolean holds, String what) {
        if (!holds) {
            wrong++;
            System.out.println("not so: " + what);
        }
    }

    public static void main(String[] args) throws Exception {
        String code = withoutComments(Files.readString(SOURCE));
        faceIsAsTold();
        insideIsPrivate();
        wordsAreAllowed(code);
        methodsAreShort(code);
        callsMakeNothing();
        System.out.println(wrong == 0 ? "the language is kept to" : wrong + " rules are not kept to");
        if (wrong != 0) {
            System.exit(1);
        }
    }

    private static String withoutComments(String text) {
        return text.replaceAll("(?s)/\\*.*?\\*/", "").replaceAll("//[^\n]*", "").replaceAll("\"[^\"]*\"", "\"\"");
    }

    private static void faceIsAsTold() {
        Set<String> due = new HashSet<>(List.of(FACE.split(" ")));
        Set<String> is = new HashSet<>();
        for (Method m : WhimWind.class.getDeclaredMethods()) {
            if (!Modifier.isPrivate(m.getModifiers())) {
                is.add(m.getName() + "/" + m.getParameterCount());
                check(Modifier.isPublic(m.getModifiers()), m + " is public");
                check(m.getReturnType() == int.class && !Modifier.isStatic(m.getModifiers()), m + " answers an int");
            }
        }
        check(due.equals(is), "the methods of the face are " + due + ", not " + is);
        check(Modifier.isPublic(WhimWind.class.getModifiers()), "the class is public");
        check(Modifier.isFinal(WhimWind.class.getModifiers()), "the class is final");
        Constructor<?>[] made = WhimWind.class.getDeclaredConstructors();
        check(made.length == 1 && Modifier.isPublic(made[0].getModifiers()) && made[0].getParameterCount() == 0,
            "one public constructor");
    }

    private static void insideIsPrivate() {
        Set<String> face = new HashSet<>();
        for (Method m : WhimWind.class.getDeclaredMethods()) {
            if (Modifier.isPublic(m.getModifiers())) {
                face.add(m.getName());
            }
        }
        List<Class<?>> all = new ArrayList<>(List.of(WhimWind.class.getDeclaredClasses()));
        check(all.size() + 1 <= 12, "at most some twelve classes");
        all.add(WhimWind.class);
        for (Class<?> c : all) {
            check(c == WhimWind.class || Modifier.isStatic(c.getModifiers()), c + " is static");
            int fields = 0;
            for (Field f : c.getDeclaredFields()) {
                boolean isStatic = Modifier.isStatic(f.getModifiers());
                fields += isStatic ? 0 : 1;
                check(!isStatic || Modifier.isFinal(f.getModifiers()), f + " is final");
                check(Modifier.isPrivate(f.getModifiers()) || f.getName().equals("NONE"), f + " is private");
            }
            check(fields <= 20, c + " has at most some twenty fields");
            for (Method m : c.getDeclaredMethods()) {
                check(m.getParameterCount() <= 7, m + " takes at most seven");
                boolean isPublic = Modifier.isPublic(m.getModifiers());
                check(isPublic && c == WhimWind.class || !face.contains(m.getName()), m + " bears a public one's name");
            }
        }
    }

    private static void wordsAreAllowed(String code) {
        for (String word : BARRED) {
            boolean isWord = Character.isLetter(word.charAt(0));
            Matcher m = Pattern.compile(isWord ? "\\b\\w*" + word + "\\b" : Pattern.quote(word)).matcher(code);
            while (m.find()) {
                check(isWord && !m.group().equals(word) && !word.equals("Exact"), "no " + m.group());
            }
        }
        Matcher imports = Pattern.compile("import ([^;]*);").matcher(code);
        while (imports.find()) {
            check(imports.group(1).equals("java.util.Arrays"), "no import of " + imports.group(1));
        }
    }

    private static void methodsAreShort(String code) {
        int from = -1;
        int line = 0;
        String name = "";
        for (String text : code.split("\n")) {
            line++;
            check(text.length() <= 120, "line " + line + " is not too long");
            Matcher head = Pattern.compile("^( {4}| {8})(public|private) [^=;]*\\b(\\w+)\\([^)]*\\) \\{$").matcher(text);
            if (head.find()) {
                from = line;
                name = head.group(3);
            }
            if (from > 0 && text.matches("^( {4}| {8})\\}$")) {
                check(line - from <= 60, name + " stays short");
                from = -1;
            }
        }
    }

    /** All calls of a run live in one room: what a call needs is made with the object. */
    private static void callsMakeNothing() {
        com.sun.management.ThreadMXBean bean = (com.sun.management.ThreadMXBean) ManagementFactory.getThreadMXBean();
        long id = Thread.currentThread().getId();
        WhimWind warm = new WhimWind();
        everyCall(warm);
        bean.getThreadAllocatedBytes(id);
        long before = bean.getThreadAllocatedBytes(id);
        WhimWind x = new WhimWind();
        long made = bean.getThreadAllocatedBytes(id);
        everyCall(x);
        long after = bean.getThreadAllocatedBytes(id);
        check(made - before < 200_000, "a new object is small, not " + (made - before) + " bytes");
        check(after - made < 1_000, "calls make nothing, not " + (after - made) + " bytes");
    }

    private static void everyCall(WhimWind x) {
        // plateau 3 2;person 3 2 1;person 5 4 3;mill 4 3;mill 5 9;roof 4 2
        x.feed(1886151028, 1700885792, 857748027, 1885696627, 1869488179);
        x.feed(540155953, 997221746, 1936682528, 891302944, 859532649);
        x.feed(1819025460, 540228461, 1768713248, 891304251, 1919905638);
        x.feed(540287026, 0, 0, 0, 0);
        x.end(64);
        x.plateau();
        // whim 3 - ..
        x.feed(2003331437, 540224883, 1768842085, 543778336, 1633907813);
        x.feed(1681797179, 2003331437, 544567911, 1697477492, 1700881529);
        x.end(40);
        x.rule();
        for (int i = 0; i < 30; i++) {
            x.force(i % 2 - 1);
            for (int what = -1; what < 17; what++) {
                x.count(what);
                x.person(0, what);
                x.mill(0, what);
                x.roof(0, what);
                x.wind(what);
                x.ahead(0, 100, what);
                x.stand(0, 60, what);
                x.turn(0, 60, what);
                x.still(60, what);
                x.blown(4, 2, what);
                x.lull(100, what);
                x.harvest(100, what);
                x.rests(0, 1, 20, what);
                x.ruled(what);
                x.look(60, what);
                x.notions(10, 60, 50, what);
            }
            x.takes(0, 0, 9999, 60);
            x.storm(2);
            x.whim(0);
            x.pence(99, 0);
            x.note(2, 4, 3);
            x.seed(i);
            x.wine(0, 3);
            x.place(0, 2 + i % 2);
            x.face(0, i % 4);
            x.hour();
            x.mend(0);
            x.undo();
            x.image(i % 4);
            x.back(i % 3);
        }
    }
}
