import java.lang.reflect.Constructor;
import java.lang.reflect.Field;
import java.lang.reflect.Method;
import java.lang.reflect.Modifier;
import java.nio.file.Files;
import java.nio.file.Path;
import java.util.TreeSet;
import java.util.regex.Matcher;
import java.util.regex.Pattern;

/** The class's face as the document lists it, and the rules of LANGUAGE.md that a text can show. */
public final class FaceTest {
    private static final String FACE = "feed(int,int,int,int,int) end(int) inn() fault(int) key(int,int) reach(int)"
            + " steps(int,int) trusts(int,int) guest(int,int) book(int,int,int) off(int) comes(int,int)"
            + " fears(int,int) unsafe(int,int) risk(int) fits(int) first(int) give(int) still(int) most(int)"
            + " ways(int) lay(int,int) spare(int) full(int) rings(int,int) next(int,int) lose(int,boolean) open()"
            + " bare(int) harm(int,int) worst(int) change(int) fewest(int,int) theft(int,int) away(int,int)"
            + " could(int) all() gang(int) round(int) rounds(int,int) loops() leave(int,int) shut(int,int)"
            + " swap(int,int,int) visitors(int,int) calm() judge(int) then(int,int) season(int)"
            + " seasons(int,int,int) count(int) keep(int) back(int) row(int,int,int) write(int,int,long)"
            + " paste(int,int,int,int,int)";

    public static void main(String[] args) throws Exception {
        face();
        if (args.length > 0) {
            source(Files.readString(Path.of(args[0])));
        }
        Due.finish();
    }

    private static void face() {
        Due.is("public final", KeyInn.class.getModifiers(), Modifier.PUBLIC | Modifier.FINAL);
        TreeSet<String> due = new TreeSet<>();
        for (String m : FACE.split(" ")) {
            due.add(m);
        }
        TreeSet<String> names = new TreeSet<>();
        TreeSet<String> got = new TreeSet<>();
        for (Method m : KeyInn.class.getDeclaredMethods()) {
            if (!Modifier.isPrivate(m.getModifiers())) {
                StringBuilder b = new StringBuilder(m.getName()).append('(');
                for (Class<?> c : m.getParameterTypes()) {
                    b.append(b.charAt(b.length() - 1) == '(' ? "" : ",").append(c.getName());
                }
                got.add(b.append(')').toString());
                names.add(m.getName());
                Due.is(m.getName() + " is public", m.getModifiers(), Modifier.PUBLIC);
                Due.is(m.getName() + " answers int", m.getReturnType() == int.class ? 1 : 0, 1);
            }
        }
        same("methods", got, due);
        for (Class<?> c : KeyInn.class.getDeclaredClasses()) {
            Due.is(c.getName() + " is static", c.getModifiers() & Modifier.STATIC, Modifier.STATIC);
            for (Method m : c.getDeclaredMethods()) {
                Due.is(c.getName() + "." + m.getName() + " bears a name of the face", names.contains(m.getName()) ? 1 : 0, 0);
            }
            members(c);
        }
        members(KeyInn.class);
        Constructor<?>[] makers = KeyInn.class.getDeclaredConstructors();
        Due.is("constructors", makers.length, 1);
        Due.is("KeyInn() is public", makers[0].getModifiers(), Modifier.PUBLIC);
        Due.is("KeyInn() takes", makers[0].getParameterCount(), 0);
        Due.is("NONE", KeyInn.NONE, -1);
    }

    private static void members(Class<?> c) {
        int own = 0;
        for (Field f : c.getDeclaredFields()) {
            boolean isStatic = Modifier.isStatic(f.getModifiers());
            own += isStatic ? 0 : 1;
            if (isStatic) {
                Due.is(f.getName() + " is final", f.getModifiers() & Modifier.FINAL, Modifier.FINAL);
            }
            if (c == KeyInn.class && !f.getName().equals("NONE")) {
                Due.is(f.getName() + " is private", f.getModifiers() & Modifier.PRIVATE, Modifier.PRIVATE);
            }
        }
        Due.is(c.getName() + " has more than twenty fields", own > 20 ? own : 0, 0);
        for (Method m : c.getDeclaredMethods()) {
            Due.is(m.getName() + " takes more than seven", m.getParameterCount() > 7 ? 1 : 0, 0);
        }
    }

    private static void same(String what, TreeSet<String> got, TreeSet<String> due) {
        if (!got.equals(due)) {
            System.out.println(what + " are " + got + ", due are " + due);
        }
        Due.is(what, got.equals(due) ? 1 : 0, 1);
    }

    private static void source(String text) {
        String bare = text.replaceAll("(?s)/\\*.*?\\*/", "").replaceAll("//[^\n]*", "");
        for (String word : new String[] {"throw", "throws", "try", "catch", "synchronized", "assert", "package"}) {
            Due.is("the word " + word, Pattern.compile("\\b" + word + "\\b").matcher(bare).find() ? 1 : 0, 0);
        }
        Due.is("lambdas and method references", bare.contains("->") || bare.contains("::") ? 1 : 0, 0);
        Due.is("names ending in Exact", bare.contains("Exact(") ? 1 : 0, 0);
        Matcher imports = Pattern.compile("import ([^;]*);").matcher(bare);
        while (imports.find()) {
            Due.is("import " + imports.group(1), imports.group(1).equals("java.util.Arrays") ? 1 : 0, 1);
        }
        Matcher classes = Pattern.compile("\\b(class|enum|interface|record) \\w+").matcher(bare);
        int n = 0;
        while (classes.find()) {
            n++;
        }
        Due.is("more than twelve classes", n > 12 ? n : 0, 0);
        int longest = 0;
        int since = 0;
        String[] lines = text.split("\n");
        for (int i = 0; i < lines.length; i++) {
            if (lines[i].matches(" {4}( {4})?\\w[^=;]*\\) \\{")) {
                since = i;
            }
            if (lines[i].matches(" {4}( {4})?\\}")) {
                longest = Math.max(longest, i - since + 1);
                since = i + 1;
            }
        }
        Due.is("a method of more than sixty lines", longest > 60 ? longest : 0, 0);
        for (int i = 0; i < text.length(); i++) {
            if (text.charAt(i) > 126) {
                Due.is("sign at " + i, text.charAt(i), 0);
            }
        }
    }
}
