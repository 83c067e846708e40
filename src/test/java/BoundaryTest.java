import java.lang.reflect.InvocationTargetException;
import java.lang.reflect.Method;
import java.util.Arrays;
import java.util.Comparator;

/** Runs each case: a method that quotes a sentence of the document and holds the class to it. */
public final class BoundaryTest {
    private static final Class<?>[] CASES = {ItemCases.class, SettingCases.class, BreakCases.class, PassCases.class,
        DemeritCases.class, LineCases.class, PlaceCases.class, RefusalCases.class};
    private static final int PROMISES = 14;

    private BoundaryTest() {
    }

    public static void main(String[] args) throws IllegalAccessException {
        int[] casesOf = new int[PROMISES + 1];
        for (Class<?> cases : CASES) {
            Method[] methods = cases.getDeclaredMethods();
            Arrays.sort(methods, Comparator.comparing(Method::getName));
            for (Method method : methods) {
                Sentence sentence = method.getAnnotation(Sentence.class);
                if (sentence != null) {
                    casesOf[sentence.promise()]++;
                    run(method, sentence);
                }
            }
        }
        Check.begin("all cases");
        for (int promise = 1; promise <= PROMISES; promise++) {
            Check.isTrue("promise " + promise + " has cases", casesOf[promise] > 0);
        }
        System.out.println("cases: " + Arrays.stream(casesOf).sum());
        Check.finish("BoundaryTest");
    }

    /** What a case doesn't await is told as its failure, so that the cases behind it still run. */
    private static void run(Method method, Sentence sentence) throws IllegalAccessException {
        Check.begin(method.getName() + " (promise " + sentence.promise() + ", \"" + sentence.says() + "\")");
        int before = Check.asked();
        try {
            method.invoke(null);
        } catch (InvocationTargetException e) {
            Check.same("the case", "throws." + e.getCause(), "an end without an exception");
        }
        Check.isTrue("the case asks something", Check.asked() > before);
    }
}
