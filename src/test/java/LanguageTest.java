import java.io.IOException;
import java.lang.reflect.Constructor;
import java.lang.reflect.Field;
import java.lang.reflect.Method;
import java.lang.reflect.Modifier;
import java.nio.file.Files;
import java.nio.file.Path;
import java.util.List;
import java.util.Set;
import java.util.TreeSet;
import java.util.regex.Matcher;
import java.util.regex.Pattern;

/** What LANGUAGE.md asks of the program's file, as far as it is seen without a checker of its own. */
public final class LanguageTest {
    private static final Path SOURCE = Path.of("src/main/java/TrustDesk.java");
    private static final Path DOCUMENT = Path.of("../shared/DOC.md");

    public static void main(String[] args) throws IOException {
        face();
        otherMembers();
        nestedClasses();
        library();
        shortMethods();
        Check.done();
    }

    private static void face() throws IOException {
        Check.sentence("1. The face: the public constructor, methods and constants of the document and no other");
        String document = Files.readString(DOCUMENT);
        int from = document.indexOf("public final class TrustDesk");
        Set<String> due = new TreeSet<>();
        Matcher line = Pattern.compile("(?m)^    public (.*);$").matcher(
                document.substring(from, document.indexOf("```", from)));
        while (line.find()) {
            due.add(line.group(1).replaceAll("(int|boolean|long) [a-z]+([,)])", "$1$2").replaceAll(" = .*", ""));
        }
        Set<String> found = new TreeSet<>();
        for (Method method : TrustDesk.class.getDeclaredMethods()) {
            if (Modifier.isPublic(method.getModifiers())) {
                found.add(method.getReturnType() + " " + method.getName() + types(method.getParameterTypes())
                        + (method.getExceptionTypes().length > 0 ? " throws NoSuchElementException" : ""));
            }
        }
        for (Constructor<?> made : TrustDesk.class.getDeclaredConstructors()) {
            found.add("TrustDesk" + types(made.getParameterTypes()));
        }
        for (Field field : TrustDesk.class.getFields()) {
            found.add("static final int " + field.getName());
        }
        Check.same("members due", found.size(), due.size());
        for (String member : due) {
            Check.yes(member, found.contains(member));
        }
        Check.yes("a final class", Modifier.isFinal(TrustDesk.class.getModifiers()));
    }

    private static String types(Class<?>[] parameters) {
        StringBuilder all = new StringBuilder("(");
        for (Class<?> one : parameters) {
            all.append(all.length() > 1 ? ", " : "").append(one);
        }
        return all.append(")").toString();
    }

    private static void otherMembers() {
        Check.sentence("1. no other public, protected or package-visible member; no private method bears the name of a"
                + " public one; 5. static fields are final; 11. at most seven parameters, some twenty fields");
        Set<String> names = new TreeSet<>();
        for (Method method : TrustDesk.class.getMethods()) {
            names.add(method.getName());
        }
        for (Method method : TrustDesk.class.getDeclaredMethods()) {
            if (!Modifier.isPublic(method.getModifiers())) {
                Check.yes(method + " is private", Modifier.isPrivate(method.getModifiers()));
                Check.no(method + " has a public one's name", names.contains(method.getName()));
            }
        }
        for (Field field : TrustDesk.class.getDeclaredFields()) {
            Check.yes(field + " is private or NONE",
                    Modifier.isPrivate(field.getModifiers()) || field.getName().equals("NONE"));
        }
        for (Class<?> one : classes()) {
            int fields = 0;
            for (Field field : one.getDeclaredFields()) {
                boolean constant = Modifier.isStatic(field.getModifiers());
                Check.yes(field + " is final", !constant || Modifier.isFinal(field.getModifiers()));
                fields += constant ? 0 : 1;
            }
            Check.yes(one + " has some twenty fields", fields <= 20);
            for (Method method : one.getDeclaredMethods()) {
                Check.yes(method + " takes at most seven", method.getParameterCount() <= 7);
            }
        }
    }

    private static List<Class<?>> classes() {
        List<Class<?>> all = new java.util.ArrayList<>(List.of(TrustDesk.class.getDeclaredClasses()));
        all.add(TrustDesk.class);
        return all;
    }

    private static void nestedClasses() {
        Check.sentence("1. the classes inside it are private or package-visible and static; 11. some twelve classes");
        Check.yes("some twelve", classes().size() <= 12);
        for (Class<?> one : TrustDesk.class.getDeclaredClasses()) {
            Check.yes(one + " is static", Modifier.isStatic(one.getModifiers()));
            Check.no(one + " is public", Modifier.isPublic(one.getModifiers()));
            Check.same(one + " has no class inside", one.getDeclaredClasses().length, 0);
        }
    }

    private static void library() throws IOException {
        Check.sentence("4. The library: only what stands here; 6. no finally; 2. no lambda; 13. no clock");
        String source = Files.readString(SOURCE);
        Matcher imports = Pattern.compile("(?m)^import (.*);$").matcher(source);
        Set<String> allowed = Set.of("java.util.ArrayList", "java.util.List", "java.util.Arrays", "java.util.Iterator",
                "java.util.NoSuchElementException");
        while (imports.find()) {
            Check.yes("import of " + imports.group(1), allowed.contains(imports.group(1)));
        }
        String code = source.replaceAll("(?s)/\\*.*?\\*/", "").replaceAll("//.*", "").replaceAll("\"[^\"]*\"", "\"\"");
        String[] never = {"->", "::", "finally", "catch", "synchronized", "assert ", "instanceof", "package ",
            "java.", "javax.", "Thread", "System.", "Exact(", "protected ", "volatile ", "static {", "\" +", "+ \""};
        String body = code.replaceAll("(?m)^import .*;$", "");
        for (String sign : never) {
            Check.no("'" + sign + "' stands in it", body.contains(sign));
        }
        Check.no("a sign above 126 stands in it", source.chars().anyMatch(sign -> sign > 126));
        Matcher thrown = Pattern.compile("throw new (\\w+)").matcher(body);
        while (thrown.find()) {
            Check.yes(thrown.group(1) + " is the document's", thrown.group(1).equals("NoSuchElementException"));
        }
    }

    private static void shortMethods() throws IOException {
        Check.sentence("11. Methods stay short (some sixty lines)");
        List<String> lines = Files.readAllLines(SOURCE);
        for (int i = 0; i < lines.size(); i++) {
            Matcher head = Pattern.compile("^( +)[\\w<>\\[\\] ]+\\(.*\\).*\\{$").matcher(lines.get(i));
            if (head.find() && head.group(1).length() <= 8) {
                int end = i;
                while (end < lines.size() && !lines.get(end).equals(head.group(1) + "}")) {
                    end++;
                }
                Check.yes("line " + (i + 1) + " begins a short method", end - i <= 60);
            }
        }
    }
}
