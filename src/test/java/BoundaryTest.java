import java.io.IOException;
import java.lang.reflect.Method;
import java.nio.file.Path;
import java.util.Arrays;
import java.util.Comparator;

/** Runs each test that holds the class to a sentence of the document, and looks that no sentence of a promise is left out. */
public final class BoundaryTest {
    private static final Class<?>[] BOUNDARIES = {BoundariesOfTerms.class, BoundariesOfReadings.class, BoundariesOfSettingUp.class,
        BoundariesOfWriting.class, BoundariesOfLooking.class, BoundariesOfWhatIf.class, BoundariesOfTexts.class, BoundariesOfUndoSaving.class};

    private BoundaryTest() { }

    public static void main(String[] args) throws IOException, ReflectiveOperationException {
        Document document = new Document(Path.of("../shared/DOC.md"));
        Due due = new Due();
        int tests = 0;
        for (Class<?> boundaries : BOUNDARIES) {
            Method[] methods = boundaries.getDeclaredMethods();
            Arrays.sort(methods, Comparator.comparing(Method::getName));
            for (Method method : methods) {
                Sentence sentence = method.getAnnotation(Sentence.class);
                if (sentence != null) {
                    tests++;
                    due.about(method.getName() + " (" + sentence.in() + ", \"" + sentence.says() + "\")");
                    if (!document.says(sentence.in(), sentence.says())) {
                        due.fails("the document does not say this there, or more than once");
                    }
                    method.invoke(null, due);
                }
            }
        }
        due.about("the document");
        for (String words : document.unquoted()) {
            due.fails("no test quotes '" + words + "'");
        }
        System.out.println(tests + " boundary tests have run");
        due.end();
    }
}
