import java.lang.reflect.Constructor;
import java.lang.reflect.Executable;
import java.lang.reflect.Field;
import java.lang.reflect.Method;
import java.lang.reflect.Modifier;
import java.util.Arrays;
import java.util.Set;
import java.util.TreeSet;
import java.util.stream.Collectors;

/** The class shows the document's face and nothing else (LANGUAGE.md, rules 1 and 5). */
public final class FaceTest {
    private static final String IAE = "IllegalArgumentException";
    private static final String ISE = "IllegalStateException";
    private static final String NSE = "NoSuchElementException";

    private static final Set<String> FACE = new TreeSet<>(Arrays.asList(
        "int level(int,double) throws " + IAE + "," + ISE,
        "int wind(int,float) throws " + IAE + "," + ISE,
        "int out(int,int) throws " + IAE + "," + ISE,
        "int clear(int) throws " + IAE,
        "boolean mark(int,int,double) throws " + IAE,
        "boolean gale(int,float) throws " + IAE,
        "boolean lift(int,int) throws " + IAE,
        "int probe(double) throws " + IAE,
        "int probeWind(float) throws " + IAE,
        "int probeOut(int) throws " + IAE,
        "int run(int,int,int,boolean) throws " + IAE,
        "int count(int,int,int,boolean) throws " + IAE,
        "boolean holds(int,int,int,int) throws " + IAE,
        "int pick(int,int,int,int) throws " + IAE,
        "int stand(int) throws " + IAE,
        "int order(int) throws " + IAE,
        "double highest(int) throws " + IAE + "," + NSE,
        "float calmest(int) throws " + IAE + "," + NSE,
        "int same(int,int) throws " + IAE,
        "int move(boolean) throws " + ISE + ",UnsupportedOperationException,ArithmeticException",
        "int size(int,int) throws " + IAE));

    public static void main(String[] args) throws IllegalAccessException {
        Check check = new Check();
        check.due("the class", "public final", Modifier.toString(HarbourBoard.class.getModifiers()));
        methods(check);
        fields(check);
        constructors(check);
        check.end("FaceTest");
    }

    private static void methods(Check check) {
        Set<String> shown = new TreeSet<>();
        Set<String> shownNames = new TreeSet<>();
        Set<String> hiddenNames = new TreeSet<>();
        for (Method m : HarbourBoard.class.getDeclaredMethods()) {
            if (Modifier.isPrivate(m.getModifiers())) {
                hiddenNames.add(m.getName());
            } else {
                check.due(m.getName() + " is", "public", Modifier.toString(m.getModifiers()));
                shown.add(m.getReturnType() + " " + m.getName() + parameters(m) + refusals(m));
                shownNames.add(m.getName());
            }
        }
        check.due("the methods", FACE, shown);
        hiddenNames.retainAll(shownNames);
        check.due("private methods with a public one's name", new TreeSet<String>(), hiddenNames);
    }

    private static void fields(Check check) throws IllegalAccessException {
        for (Field f : HarbourBoard.class.getDeclaredFields()) {
            int kind = f.getModifiers();
            if (f.getName().equals("NONE")) {
                check.due("NONE is", "public static final", Modifier.toString(kind));
                check.due("NONE", -1, f.get(null));
            } else {
                check.due(f.getName() + " is private", true, Modifier.isPrivate(kind));
                check.due(f.getName() + " is no static state", true,
                    !Modifier.isStatic(kind) || Modifier.isFinal(kind));
            }
        }
    }

    private static void constructors(Check check) {
        Constructor<?>[] all = HarbourBoard.class.getDeclaredConstructors();
        check.due("constructors", 1, all.length);
        check.due("the constructor", "public()", Modifier.toString(all[0].getModifiers()) + parameters(all[0]));
    }

    private static String parameters(Executable e) {
        return Arrays.stream(e.getParameterTypes()).map(Class::getSimpleName)
            .collect(Collectors.joining(",", "(", ")"));
    }

    private static String refusals(Executable e) {
        return Arrays.stream(e.getExceptionTypes()).map(Class::getSimpleName)
            .collect(Collectors.joining(",", " throws ", ""));
    }
}
