import java.io.IOException;
import java.lang.reflect.InvocationTargetException;
import java.lang.reflect.Method;
import java.nio.file.Files;
import java.nio.file.Path;
import java.util.regex.Matcher;
import java.util.regex.Pattern;

/** Runs the example of README.md line by line; what a call answers is the first word behind it. */
public final class ReadmeTest {
    private static final Pattern TEXT = Pattern.compile("type\\(desk, \"([^\"]*)\"\\);");
    private static final Pattern CALL = Pattern.compile("desk\\.(\\w+)\\(([^)]*)\\);\\s+// ([^: ]+).*");

    public static void main(String[] args) throws IOException, IllegalAccessException {
        String readme = Files.readString(Path.of("README.md"));
        int from = readme.indexOf("TrustDesk desk = new TrustDesk();");
        String[] lines = readme.substring(from, readme.indexOf("```", from)).split("\n");
        TrustDesk desk = new TrustDesk();
        int calls = 0;
        for (int i = 1; i < lines.length; i++) {
            Matcher text = TEXT.matcher(lines[i]);
            Matcher call = CALL.matcher(lines[i]);
            if (text.matches()) {
                Check.type(desk, text.group(1));
            } else if (call.matches()) {
                calls++;
                String got = answer(desk, call.group(1), call.group(2));
                Check.yes("README: " + lines[i] + " (it answered " + got + ")", got.equals(call.group(3)));
            } else {
                Check.yes("README: '" + lines[i] + "' is no call", lines[i].isEmpty() || lines[i].startsWith("//"));
            }
        }
        Check.yes("the example has its calls", calls > 50);
        everyMethodIsShown(readme);
        Check.done();
    }

    private static void everyMethodIsShown(String readme) {
        for (Method method : TrustDesk.class.getDeclaredMethods()) {
            if (java.lang.reflect.Modifier.isPublic(method.getModifiers())) {
                Check.yes("README shows " + method.getName(), readme.contains("desk." + method.getName() + "("));
            }
        }
    }

    private static String answer(TrustDesk desk, String name, String told) throws IllegalAccessException {
        for (Method method : TrustDesk.class.getMethods()) {
            if (method.getName().equals(name)) {
                try {
                    return String.valueOf(method.invoke(desk, arguments(told)));
                } catch (InvocationTargetException thrown) {
                    return thrown.getCause().getClass().getSimpleName();
                }
            }
        }
        return "no such method";
    }

    private static Object[] arguments(String told) {
        String[] each = told.isEmpty() ? new String[0] : told.split(", ");
        Object[] all = new Object[each.length];
        for (int i = 0; i < each.length; i++) {
            boolean truth = each[i].equals("true") || each[i].equals("false");
            all[i] = truth ? (Object) Boolean.valueOf(each[i]) : (Object) Integer.valueOf(each[i]);
        }
        return all;
    }
}
