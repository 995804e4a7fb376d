import java.io.IOException;
import java.lang.reflect.Constructor;
import java.lang.reflect.Field;
import java.lang.reflect.Method;
import java.lang.reflect.Modifier;
import java.nio.file.Files;
import java.nio.file.Path;
import java.util.Set;
import java.util.TreeSet;
import java.util.regex.Matcher;
import java.util.regex.Pattern;

/** The public face, as the document tells it, and what LANGUAGE.md forbids, as far as it is easily seen. */
final class FaceTest {
    private FaceTest() {
    }

    static void all(Due due, String source, String document) throws IOException {
        String text = Files.readString(Path.of(source));
        face(due, Files.readString(Path.of(document)));
        members(due);
        words(due, text);
        lengths(due, text);
        room(due);
    }

    private static void face(Due due, String document) {
        due.test("the public face is the document's");
        Set<String> want = new TreeSet<>();
        Matcher m = Pattern.compile("(?m)^    public (int|long) (\\w+)\\(([^)]*)\\);").matcher(document);
        while (m.find()) {
            want.add(m.group(1) + " " + m.group(2) + " " + m.group(3).split(",").length * (m.group(3).isEmpty() ? 0 : 1));
        }
        Set<String> got = new TreeSet<>();
        for (Method method : BareThursday.class.getDeclaredMethods()) {
            if (Modifier.isPublic(method.getModifiers())) {
                got.add(method.getReturnType() + " " + method.getName() + " " + method.getParameterCount());
                for (Class<?> type : method.getParameterTypes()) {
                    due.is("int in " + method.getName(), type == int.class ? 1 : 0, 1);
                }
            }
        }
        due.is("methods", got.size(), 39);
        due.same("face", got.toString(), want.toString());
        due.is("class", BareThursday.class.getModifiers(), Modifier.PUBLIC | Modifier.FINAL);
        due.is("constructors", BareThursday.class.getDeclaredConstructors().length, 1);
    }

    private static void members(Due due) {
        due.test("rules 1 and 5: other members are private, statics final, no private method has a public name");
        Set<String> publics = new TreeSet<>();
        for (Method m : BareThursday.class.getMethods()) {
            if (m.getDeclaringClass() == BareThursday.class) {
                publics.add(m.getName());
            }
        }
        for (Class<?> inner : BareThursday.class.getDeclaredClasses()) {
            due.is(inner.getName() + " is static", Modifier.isStatic(inner.getModifiers()) ? 1 : 0, 1);
            due.is(inner.getName() + " is hidden", Modifier.isPublic(inner.getModifiers()) ? 1 : 0, 0);
            for (Method m : inner.getDeclaredMethods()) {
                due.is(inner.getName() + "." + m.getName(), publics.contains(m.getName()) ? 1 : 0, 0);
            }
            statics(due, inner);
        }
        for (Method m : BareThursday.class.getDeclaredMethods()) {
            boolean right = Modifier.isPublic(m.getModifiers()) ? !Modifier.isStatic(m.getModifiers())
                    : Modifier.isPrivate(m.getModifiers()) && !publics.contains(m.getName());
            due.is("method " + m.getName(), right ? 1 : 0, 1);
        }
        for (Field f : BareThursday.class.getDeclaredFields()) {
            due.is("field " + f.getName(), Modifier.isPrivate(f.getModifiers()) ? 1 : 0, 1);
        }
        for (Constructor<?> c : BareThursday.class.getDeclaredConstructors()) {
            due.is("constructor", Modifier.isPublic(c.getModifiers()) ? 1 : 0, 1);
        }
        statics(due, BareThursday.class);
    }

    private static void statics(Due due, Class<?> in) {
        for (Field f : in.getDeclaredFields()) {
            boolean right = !Modifier.isStatic(f.getModifiers()) || Modifier.isFinal(f.getModifiers());
            due.is(in.getName() + "." + f.getName(), right ? 1 : 0, 1);
        }
    }

    private static void words(Due due, String text) {
        due.test("rules 2, 4, 6, 13: words that the source does not use");
        String code = text.replaceAll("(?s)/\\*.*?\\*/", " ").replaceAll("//[^\n]*", " ");
        String[] others = {"throw", "throws", "try", "catch", "synchronized", "assert", "package", "protected",
            "native", "volatile", "transient", "instanceof", "hashCode", "toString", "Exception", "Object",
            "Random", "Thread", "System\\.(?!arraycopy)", "\\w+Exact", "->", "::", "goto", "static\\s*\\{"};
        for (String word : others) {
            String whole = Character.isLetter(word.charAt(0)) ? "\\b" + word + "\\b" : word;
            if (word.startsWith("System") || word.startsWith("static")) {
                whole = "\\b" + word;
            }
            due.is("'" + word + "' in the source", Pattern.compile(whole).matcher(code).find() ? 1 : 0, 0);
        }
        Set<String> imports = new TreeSet<>();
        Matcher m = Pattern.compile("(?m)^import ([^;]+);").matcher(code);
        while (m.find()) {
            imports.add(m.group(1));
        }
        due.same("imports", imports.toString(), "[java.util.Arrays]");
        due.is("signs beyond 127", text.chars().anyMatch(c -> c > 127) ? 1 : 0, 0);
    }

    private static void lengths(Due due, String text) {
        due.test("rule 11: methods of sixty lines at most, seven parameters, twelve classes");
        String[] lines = text.split("\n");
        int begin = -1;
        int depth = 0;
        for (int i = 0; i < lines.length; i++) {
            String line = lines[i];
            if (line.matches(" {4,8}(\\w+ )*\\w[\\w\\[\\]]* ?\\w*\\(.*\\) \\{") && !line.matches(" *(if|for|while|switch|else).*")) {
                begin = i;
                depth = line.indexOf(line.trim());
                due.is("parameters in line " + (i + 1), line.split(",").length > 7 ? 1 : 0, 0);
            }
            if (begin >= 0 && line.equals(" ".repeat(depth) + "}")) {
                due.is("line " + (begin + 1) + " begins more than 60 lines", i - begin >= 60 ? 1 : 0, 0);
                begin = -1;
            }
        }
        due.is("more than twelve classes", BareThursday.class.getDeclaredClasses().length + 1 > 12 ? 1 : 0, 0);
    }

    private static void room(Due due) {
        due.test("rule 12: nothing is made by calls");
        BareThursday x = Towns.of("person;noise at 1;aunt;lady;columbine;harp;wet;person at 3;met 0 1");
        Towns.row(x, 0, 8, 0, -1, -1);
        com.sun.management.ThreadMXBean bean = (com.sun.management.ThreadMXBean)
                java.lang.management.ManagementFactory.getThreadMXBean();
        long id = Thread.currentThread().getId();
        calls(x);
        long before = bean.getThreadAllocatedBytes(id);
        for (int i = 0; i < 20; i++) {
            calls(x);
        }
        long made = bean.getThreadAllocatedBytes(id) - before;
        due.is("bytes made by calls beyond a little", made > 20000 ? made : 0, 0);
    }

    private static void calls(BareThursday x) {
        x.image();
        x.dark(24);
        x.standFor(0, 60);
        x.fits(0, 0);
        x.known();
        x.night(3);
        x.circle(0);
        x.odds(0, 3, 0);
        x.feed(0x77657420, 4);
        x.text();
        x.copy(0, 0, 0, 1, 2);
        x.sheet(1, 16, 40);
        x.undo();
    }
}
