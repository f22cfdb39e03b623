import java.lang.reflect.Method;
import java.lang.reflect.Modifier;
import java.nio.file.Files;
import java.nio.file.Path;
import java.util.regex.Matcher;
import java.util.regex.Pattern;

/** What README.md shows of the program is so. */
public final class Readme extends Bench {
    private static final Pattern CALL = Pattern.compile("^x\\.(\\w+)\\(([^)]*)\\); +// (-?\\d+)(: .*)?$");
    private static final Pattern TEXT = Pattern.compile("^// \"(.*)\"$");

    public static void main(String[] args) throws Exception {
        String readme = Files.readString(Path.of("README.md"));
        callsAnswerSo(readme);
        everyCallIsTold(readme);
        finish();
    }

    private static void callsAnswerSo(String readme) throws Exception {
        WhimWind x = new WhimWind();
        String text = "";
        StringBuilder fed = new StringBuilder();
        for (String line : exampleOf(readme).split("\n")) {
            Matcher told = TEXT.matcher(line);
            Matcher call = CALL.matcher(line);
            if (told.find()) {
                text = told.group(1);
            } else if (call.find()) {
                int[] numbers = numbersOf(call.group(2));
                due("README: " + line, answer(x, call.group(1), numbers), Integer.parseInt(call.group(3)));
                if (call.group(1).equals("feed")) {
                    addBytes(fed, numbers);
                } else if (call.group(1).equals("end")) {
                    alike("README: what has come is the text", fed.substring(0, numbers[0]), text);
                    fed.setLength(0);
                }
            } else {
                due("README: a line that can be read: " + line,
                    line.isEmpty() || line.equals("WhimWind x = new WhimWind();") ? 1 : 0, 1);
            }
        }
    }

    private static String exampleOf(String readme) {
        int from = readme.indexOf("```java\n") + 8;
        return readme.substring(from, readme.indexOf("```", from));
    }

    private static int[] numbersOf(String list) {
        if (list.isEmpty()) {
            return new int[0];
        }
        String[] parts = list.split(", ");
        int[] numbers = new int[parts.length];
        for (int i = 0; i < parts.length; i++) {
            numbers[i] = Integer.parseInt(parts[i]);
        }
        return numbers;
    }

    private static void addBytes(StringBuilder fed, int[] numbers) {
        for (int number : numbers) {
            for (int shift = 24; shift >= 0; shift -= 8) {
                fed.append((char) (number >>> shift & 255));
            }
        }
    }

    private static int answer(WhimWind x, String name, int[] numbers) throws Exception {
        for (Method m : WhimWind.class.getMethods()) {
            if (m.getName().equals(name) && m.getParameterCount() == numbers.length) {
                Object[] boxed = new Object[numbers.length];
                for (int i = 0; i < numbers.length; i++) {
                    boxed[i] = numbers[i];
                }
                return (Integer) m.invoke(x, boxed);
            }
        }
        throw new IllegalArgumentException("no call " + name + " of " + numbers.length + " numbers");
    }

    private static void everyCallIsTold(String readme) {
        for (Method m : WhimWind.class.getDeclaredMethods()) {
            if (Modifier.isPublic(m.getModifiers())) {
                due("README tells of " + m.getName(), readme.contains("`" + m.getName() + "`") ? 1 : 0, 1);
            }
        }
    }
}
