import java.lang.reflect.InvocationTargetException;
import java.lang.reflect.Method;
import java.util.Arrays;
import java.util.Comparator;
import java.util.regex.Matcher;
import java.util.regex.Pattern;

/**
 * The boundary cases that the document names, each in a test method of its own. The methods stand
 * in the classes below; a name begins with the number of its promise (p17..), and each promise has
 * some.
 */
public final class EdgeTest {
    private static final int PROMISES = 57;
    private static final Pattern NAME = Pattern.compile("p(\\d\\d)[A-Z]\\w*");
    private static final Class<?>[] GROUPS = {TextEdges.class, FaultEdges.class, KeyEdges.class, BookEdges.class,
        HouseEdges.class, LostEdges.class, TheftEdges.class, NightEdges.class, ThoughtEdges.class, KeepEdges.class};

    public static void main(String[] args) throws Exception {
        int[] tests = new int[PROMISES + 1];
        int all = 0;
        for (Class<?> group : GROUPS) {
            Method[] methods = group.getDeclaredMethods();
            Arrays.sort(methods, Comparator.comparing(Method::getName));
            for (Method m : methods) {
                Matcher name = NAME.matcher(m.getName());
                if (name.matches()) {
                    run(m);
                    tests[Integer.parseInt(name.group(1))]++;
                    all++;
                }
            }
        }
        for (int p = 1; p <= PROMISES; p++) {
            Due.is("promise " + p + " has no test of its edges", tests[p] == 0 ? 1 : 0, 0);
        }
        System.out.println(all + " edges");
        Due.finish();
    }

    private static void run(Method m) throws Exception {
        int before = Due.asked();
        Due.begin(m.getName());
        try {
            m.invoke(null);
        } catch (InvocationTargetException e) {
            e.getCause().printStackTrace(System.out);
            Due.is("it throws", 1, 0);
        }
        Due.is("it asks nothing", Due.asked() == before ? 1 : 0, 0);
        Due.begin("");
    }
}
