import java.io.IOException;
import java.lang.reflect.InvocationTargetException;
import java.lang.reflect.Method;
import java.nio.file.Files;
import java.nio.file.Path;
import java.util.Arrays;
import java.util.Comparator;
import java.util.LinkedHashSet;
import java.util.List;
import java.util.Set;

/**
 * Runs the tests of the sentences of the document, section by section. What a test is for stands in
 * its Says, and is printed with each answer that is not the one due. The words in the Says of all
 * tests of a section must be the document's own and leave none of its words out.
 */
public final class SentencesTest {
    private static final Path FILE = Path.of("../shared/DOC.md");
    private static final List<Class<? extends Sentences>> CLASSES = List.of(
            WhatItIs.class, Terms.class, TermsReasons.class, TermsNothingChanged.class,
            Promise01NewObject.class, Promise02Enrol.class, Promise03Remove.class, Promise04Limit.class,
            Promise05Allow.class, Promise06Save.class, Promise07Crash.class, Promise08Tick.class,
            Promise09Login.class, Promise10Ask.class, Promise11Receive.class, Promise12Order.class,
            Promise13Issue.class, Promise14Grant.class, Promise15Serve.class, Promise16Answer.class,
            Promise17Steal.class, Promise18Learn.class, Promise19Forge.class, Promise20Seal.class,
            Promise21Look.class);
    private static final Due due = new Due();

    public static void main(String[] args) throws IOException, ReflectiveOperationException {
        for (Class<? extends Sentences> tests : CLASSES) {
            for (Method test : testsOf(tests)) {
                run(tests, test);
            }
        }
        if (Files.exists(FILE)) {
            holdAgainst(new Document(FILE));
        } else {
            System.out.println("there is no " + FILE + ": the words of the tests are not held against it");
        }
        due.end();
    }

    private static List<Method> testsOf(Class<?> tests) {
        return Arrays.stream(tests.getDeclaredMethods()).filter(m -> m.isAnnotationPresent(Says.class))
                .sorted(Comparator.comparing(Method::getName)).toList();
    }

    private static String heading(Class<?> tests) {
        return tests.getAnnotation(Section.class).value();
    }

    private static String words(Method test) {
        return test.getAnnotation(Says.class).value();
    }

    private static void run(Class<? extends Sentences> tests, Method test) throws ReflectiveOperationException {
        due.at(heading(tests) + " \"" + words(test) + "\" " + test.getName());
        Sentences object = tests.getDeclaredConstructor().newInstance();
        object.reportTo(due);
        try {
            test.invoke(object);
        } catch (InvocationTargetException e) {
            due.fault("threw " + e.getCause());
        }
    }

    private static void holdAgainst(Document document) {
        Set<String> headings = new LinkedHashSet<>();
        for (Class<?> tests : CLASSES) {
            String heading = heading(tests);
            headings.add(heading);
            due.at(heading);
            for (Method test : testsOf(tests)) {
                if (!document.quote(heading, words(test))) {
                    due.fault("the document does not say \"" + words(test) + "\"");
                }
            }
        }
        for (String heading : headings) {
            due.at(heading);
            for (String rest : document.unquoted(heading)) {
                due.fault("no test is for \"" + rest + "\"");
            }
        }
    }
}
