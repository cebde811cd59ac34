import java.io.IOException;
import java.util.ArrayList;
import java.util.HashSet;
import java.util.LinkedHashSet;
import java.util.List;
import java.util.Map;
import java.util.Set;

/**
 * Every boundary case that the document names. Each test bears the promise and the sentence that it holds; here the
 * tests are run, and held against the document: no sentence of it stands without a test.
 */
public final class BoundaryTest {
    private BoundaryTest() {
    }

    public static void main(String[] args) throws IOException {
        List<Cases.Case> cases = cases();
        failures(cases);
        Check.begin("");
        everySentenceHasATest(cases);
        Check.finish();
    }

    static List<Cases.Case> cases() {
        List<Cases.Case> cases = new ArrayList<>();
        cases.addAll(new TermsCases().all);
        cases.addAll(new TextCases().all);
        cases.addAll(new ChangeCases().all);
        cases.addAll(new BlockCases().all);
        cases.addAll(new RouteCases().all);
        cases.addAll(new TrainCases().all);
        cases.addAll(new TickCases().all);
        cases.addAll(new CommandCases().all);
        cases.addAll(new UndoCases().all);
        return cases;
    }

    /** Runs the cases and returns the names of those that fail. */
    static Set<String> failures(List<Cases.Case> cases) {
        Set<String> failures = new LinkedHashSet<>();
        for (Cases.Case one : cases) {
            int before = Check.wrong();
            Check.begin(one.name() + ": ");
            try {
                one.test().run();
            } catch (RuntimeException e) {
                Check.report("threw " + e + " at " + e.getStackTrace()[0]);
            }
            if (Check.looks() == 0) {
                Check.report("looks at nothing");
            }
            if (Check.wrong() > before) {
                failures.add(one.name());
            }
        }
        return failures;
    }

    private static void everySentenceHasATest(List<Cases.Case> cases) throws IOException {
        Set<String> tested = new HashSet<>();
        for (Cases.Case one : cases) {
            tested.add(one.name());
        }
        Map<String, List<String>> sections = Document.sections();
        Set<String> wanted = new LinkedHashSet<>();
        for (Map.Entry<String, List<String>> section : sections.entrySet()) {
            boolean promise = section.getKey().startsWith("Promise ");
            if (promise || section.getKey().equals("Terms")) {
                want(section.getKey(), section.getValue(), wanted);
            }
            long exceptions = section.getValue().stream().filter(s -> s.startsWith("Throws ")).count();
            if (promise && exceptions >= 1) {
                want(section.getKey(), List.of(Cases.CHANGES_NOTHING), wanted);
            }
            if (promise && exceptions >= 2) {
                want(section.getKey(), List.of(Cases.FIRST_DECIDES), wanted);
            }
        }
        // Its section tells what the railway is; only this sentence of it names a boundary.
        want("What it is", sections.get("What it is").stream().filter(s -> s.contains("512")).toList(), wanted);
        compare(wanted, tested);
    }

    private static void want(String place, List<String> sentences, Set<String> wanted) {
        for (String sentence : sentences) {
            wanted.add(new Cases.Case(place, sentence, () -> { }).name());
        }
    }

    private static void compare(Set<String> wanted, Set<String> tested) {
        Check.yes("the document has sentences", wanted.size() > 200);
        for (String name : wanted) {
            Check.yes("a test of " + name, tested.contains(name));
        }
        for (String name : tested) {
            Check.yes("in the document: " + name, wanted.contains(name));
        }
    }
}
