import java.util.LinkedHashMap;
import java.util.List;
import java.util.Map;

/** What was compared for each sentence of the document. */
final class Sentences {
    private final Map<String, Due> told = new LinkedHashMap<>();
    private int ended = 0;

    Due of(int promise, String sentence) {
        return of("Promise " + promise, sentence);
    }

    Due of(String section, String sentence) {
        return told.computeIfAbsent(section + ": " + sentence, Due::new);
    }

    /** A call that throws where it must not ends the test that made it, and no other one. */
    void tellAll(Runnable... tests) {
        for (Runnable test : tests) {
            try {
                test.run();
            } catch (RuntimeException e) {
                ended++;
                e.printStackTrace(System.out);
            }
        }
    }

    /** A sentence of the document without a test is as wrong as a test whose sentence the document does not have. */
    void end(List<String> document, List<String> withoutBoundary) {
        int compared = 0;
        int wrong = ended;
        for (Map.Entry<String, Due> entry : told.entrySet()) {
            compared += entry.getValue().compared();
            wrong += entry.getValue().wrong();
            wrong += complain(!document.contains(entry.getKey()), "not in the document", entry.getKey());
        }
        for (String sentence : document) {
            boolean isTold = told.containsKey(sentence) && told.get(sentence).compared() > 0;
            wrong += complain(isTold == withoutBoundary.contains(sentence), "to be told once, by a test or as one "
                    + "without a boundary", sentence);
        }
        System.out.println(told.size() + " sentences of " + document.size() + ": " + compared + " compared, " + wrong
                + " wrong");
        if (wrong != 0) {
            System.exit(1);
        }
    }

    private static int complain(boolean isWrong, String complaint, String sentence) {
        if (isWrong) {
            System.out.println(complaint + ": " + sentence);
        }
        return isWrong ? 1 : 0;
    }
}
