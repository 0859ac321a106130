import java.io.IOException;
import java.lang.reflect.Field;
import java.lang.reflect.Method;
import java.lang.reflect.Modifier;
import java.nio.file.Files;
import java.nio.file.Path;
import java.util.List;
import java.util.regex.Matcher;
import java.util.regex.Pattern;

/** README.md tells the whole face, and its examples answer what stands beside them. */
public final class ReadmeTest {
    private static final Pattern CALL = Pattern.compile("k\\.(\\w+)\\((.*)\\); +// (true|false|-?\\d+)(:.*)?");

    public static void main(String[] args) throws IOException, ReflectiveOperationException {
        List<String> lines = Files.readAllLines(Path.of("README.md"));
        String text = String.join(" ", lines);
        Check.due("README.md tells the 512 calls", true, text.contains("at most 512 calls"));
        Check.due("README.md tells how to run the tests", true, lines.contains(".ci/run"));
        everyMethodIsTold(text);
        everyConstantIsTold(text);
        examplesAnswerAsTold(lines);
        Check.end();
    }

    private static void everyMethodIsTold(String text) {
        for (Method m : CageKernel.class.getDeclaredMethods()) {
            if (!Modifier.isPublic(m.getModifiers())) {
                continue;
            }
            String parameters = "(, )?int \\w+".repeat(m.getParameterCount());
            String face = "\\| `" + m.getReturnType() + " " + m.getName() + "\\(" + parameters + "\\)` \\|";
            Check.due("README.md tells " + m.getName(), true, Pattern.compile(face).matcher(text).find());
        }
    }

    private static void everyConstantIsTold(String text) throws IllegalAccessException {
        for (Field f : CageKernel.class.getDeclaredFields()) {
            if (Modifier.isPublic(f.getModifiers())) {
                String row = "| `" + f.getName() + "` | " + f.getInt(null) + " |";
                Check.due("README.md tells " + f.getName(), true, text.contains(row));
            }
        }
    }

    private static void examplesAnswerAsTold(List<String> lines) throws ReflectiveOperationException {
        CageKernel k = null;
        for (String line : lines) {
            if (line.startsWith("CageKernel k = ")) {
                k = new CageKernel();
            } else if (line.startsWith("k.")) {
                Matcher call = CALL.matcher(line);
                boolean told = call.matches();
                Check.due("README.md tells the answer of " + line, true, told);
                if (told) {
                    String answer = String.valueOf(answer(k, call.group(1), call.group(2).split(", ")));
                    Check.due(line + " answers " + answer, true, answer.equals(call.group(3)));
                }
            }
        }
        Check.due("README.md has an example", true, k != null);
    }

    private static Object answer(CageKernel k, String name, String[] texts) throws ReflectiveOperationException {
        Class<?>[] types = new Class<?>[texts.length];
        Object[] values = new Object[texts.length];
        for (int i = 0; i < texts.length; i++) {
            types[i] = int.class;
            values[i] = Integer.decode(texts[i]);
        }
        return CageKernel.class.getMethod(name, types).invoke(k, values);
    }
}
