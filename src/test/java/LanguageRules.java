import java.io.IOException;
import java.lang.reflect.Constructor;
import java.lang.reflect.Field;
import java.lang.reflect.Method;
import java.lang.reflect.Modifier;
import java.nio.file.Files;
import java.nio.file.Path;
import java.util.ArrayList;
import java.util.List;
import java.util.Set;
import java.util.TreeSet;
import java.util.regex.Matcher;
import java.util.regex.Pattern;

/** Those rules of LANGUAGE.md that can be seen in the compiled class or word by word in the text. */
public final class LanguageRules extends Checks {
    private static final String[] FACE = {"int node(boolean)", "int link(long,int)", "int attach(int,int,long,long)",
        "int own(int,long,int)", "int message(int,int,int,int)", "int echo(int,long,long,int)", "int tick(int)",
        "int deliver(int)", "int drop(int)", "int twice(int)", "int hurry(int)", "int raise(int,boolean)", "int frames()",
        "int frame(int,int)", "long bytes(int,int)", "int face(int,int)", "long id(int,int)", "long entry(int,int,int)",
        "int routes(int)", "long route(int,int,int)", "int way(int,long)", "int heard(int,int)", "int got(int,int,int,int)",
        "int sent(int,int,int)", "int mtu(int,long,long)", "int count(int,int)", "int world(int)", "int status()"};
    private static final String[] FORBIDDEN = {"\\bthrows?\\b", "\\btry\\b", "\\bcatch\\b", "\\bfinally\\b",
        "\\bsynchronized\\b", "\\bassert\\b", "\\bpackage\\b", "\\bprotected\\b", "->", "::", "@", "\\bObject\\b",
        "\\bhashCode\\b", "\\btoString\\b", "Exact\\b", "\\bstatic \\{", "\\bvar\\b", "\\bThread\\b", "\\bRandom\\b",
        "currentTime", "nanoTime"};
    private static final int MOST_CLASSES = 12;
    private static final int MOST_FIELDS = 20;
    private static final int MOST_PARAMETERS = 7;
    private static final int MOST_LINES = 60;

    private static List<Class<?>> classes() {
        List<Class<?>> all = new ArrayList<>();
        all.add(SixNet.class);
        all.addAll(List.of(SixNet.class.getDeclaredClasses()));
        return all;
    }

    private static String signature(Method m) {
        StringBuilder s = new StringBuilder(m.getReturnType() + " " + m.getName() + "(");
        for (Class<?> p : m.getParameterTypes()) {
            s.append(s.charAt(s.length() - 1) == '(' ? "" : ",").append(p);
        }
        return s.append(")").toString();
    }

    private static void face() {
        says("1. The face: the class of the document, public and final");
        due("final", Modifier.isFinal(SixNet.class.getModifiers()) ? 1 : 0, 1);
        Set<String> open = new TreeSet<>();
        for (Method m : SixNet.class.getDeclaredMethods()) {
            if (Modifier.isPublic(m.getModifiers())) {
                open.add(signature(m));
            } else {
                due(m.getName() + " is private", Modifier.isPrivate(m.getModifiers()) ? 1 : 0, 1);
            }
        }
        due("methods", open.toString(), new TreeSet<>(List.of(FACE)).toString());
        for (Field f : SixNet.class.getDeclaredFields()) {
            due(f.getName() + " is open", Modifier.isPrivate(f.getModifiers()) ? 0 : 1, f.getName().equals("BAD") ? 1 : 0);
        }
        Constructor<?>[] made = SixNet.class.getDeclaredConstructors();
        due("constructors", made.length, 1);
        due("its parameters", made[0].getParameterCount(), 0);
        for (Class<?> c : SixNet.class.getDeclaredClasses()) {
            due(c.getName() + " is static", Modifier.isStatic(c.getModifiers()) ? 1 : 0, 1);
        }
    }

    private static void names() {
        says("No private method bears the name of a public one");
        Set<String> open = new TreeSet<>();
        for (Method m : SixNet.class.getMethods()) {
            if (m.getDeclaringClass() == SixNet.class) {
                open.add(m.getName());
            }
        }
        for (Class<?> c : classes()) {
            for (Method m : c.getDeclaredMethods()) {
                boolean shared = open.contains(m.getName()) && !Modifier.isPublic(m.getModifiers());
                due(c.getName() + "." + m.getName(), shared ? 1 : 0, 0);
            }
        }
    }

    private static void statics() {
        says("5. Static fields are final: constants of int, long, boolean, char or String");
        Set<Class<?>> kinds = Set.of(int.class, long.class, boolean.class, char.class, String.class);
        for (Class<?> c : classes()) {
            for (Field f : c.getDeclaredFields()) {
                if (Modifier.isStatic(f.getModifiers())) {
                    due(f.getName() + " is final", Modifier.isFinal(f.getModifiers()) ? 1 : 0, 1);
                    due(f.getName() + " is a constant", kinds.contains(f.getType()) ? 1 : 0, 1);
                }
            }
        }
    }

    private static void sizes() {
        says("11. at most seven parameters, some twelve classes, some twenty fields beside its constants");
        due("too many classes", classes().size() > MOST_CLASSES ? classes().size() : 0, 0);
        for (Class<?> c : classes()) {
            int fields = 0;
            for (Field f : c.getDeclaredFields()) {
                fields += Modifier.isStatic(f.getModifiers()) ? 0 : 1;
            }
            due(c.getName() + " has too many fields", fields > MOST_FIELDS ? fields : 0, 0);
            for (Method m : c.getDeclaredMethods()) {
                int count = m.getParameterCount();
                due(m.getName() + " has too many parameters", count > MOST_PARAMETERS ? count : 0, 0);
            }
        }
    }

    private static String withoutRemarks(String text) {
        return text.replaceAll("(?s)/\\*.*?\\*/", "").replaceAll("//[^\n]*", "");
    }

    private static void words(String text) {
        says("2, 4, 6, 13: what the language leaves out");
        String code = withoutRemarks(text);
        for (String word : FORBIDDEN) {
            Matcher m = Pattern.compile(word).matcher(code);
            due(word, m.find() ? m.start() : -1, -1);
        }
        Matcher imports = Pattern.compile("(?m)^import (?!java\\.util\\.(ArrayList|List|Arrays|Iterator);)").matcher(code);
        due("an import", imports.find() ? 1 : 0, 0);
    }

    /** A method begins with a line that ends in ") {" and is indented as members are; it ends with a brace so indented. */
    private static void lengths(String text) {
        says("11. Methods stay short (some sixty lines)");
        String name = "";
        int begun = 0;
        String[] lines = text.split("\n");
        for (int i = 0; i < lines.length; i++) {
            Matcher begins = Pattern.compile("^ {4}( {4})?\\w[^=;]*\\b(\\w+)\\(.*\\) \\{$").matcher(lines[i]);
            if (begins.find() && !lines[i].trim().matches("(if|for|while|switch|else|do)\\b.*")) {
                name = begins.group(2);
                begun = i;
            } else if (lines[i].matches("^ {4}( {4})?\\}$") && begun > 0) {
                boolean ends = lines[i].indexOf('}') == lines[begun].length() - lines[begun].stripLeading().length();
                due(name + " is too long", ends && i - begun > MOST_LINES ? i - begun : 0, 0);
                begun = ends ? 0 : begun;
            }
        }
    }

    public static void main(String[] args) throws IOException {
        face();
        names();
        statics();
        sizes();
        String text = Files.readString(Path.of(System.getProperty("sixnet.source", "src/main/java/SixNet.java")));
        words(text);
        lengths(text);
        end();
    }
}
