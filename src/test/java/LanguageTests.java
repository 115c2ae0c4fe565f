/**
 * That src/main/java/VowCourt.java keeps to ../shared/LANGUAGE.md, as far as javac's tree of it tells; rule 1 is in
 * FaceTests. Whether each index is looked at (rule 7) no tree tells: Court fails where the machine throws.
 */
final class LanguageTests {
    private static final String SOURCE = "src/main/java/VowCourt.java";
    private static final int MOST_CALLS_DEEP = 8;
    private static final int MOST_CLASSES = 12;

    private static final String[][] RULES = {
        {"function", "language 2: no lambda, no method reference, no class inside a method"},
        {"type", "language 3: no type but those that it lists"},
        {"library", "language 4: no call of the library but those that it lists"},
        {"sign", "language 4: constants of text hold the signs 1 to 127"},
        {"static", "language 5: static fields are final, and no initialiser block"},
        {"throw", "language 6: only written exceptions are thrown, none in a constructor"},
        {"catch", "language 6: only its exceptions are caught, without finally or resources"},
        {"statement", "language 6: no synchronized, no assert"},
        {"object", "language 6: no equals, hashCode or toString of its own"},
        {"cast", "language 6: no cast to a class"},
        {"loop", "language 9: a loop has a condition that is looked at"},
        {"join", "language 10: texts are not joined by +"},
        {"parameters", "language 11: a method takes at most 7 parameters"},
        {"lines", "language 11: a method has at most 60 lines"},
        {"fields", "language 11: a class has at most 20 fields beside its constants"},
    };

    private LanguageTests() {
    }

    static void tell(Suite suite) {
        LanguageReader read = LanguageReader.of(SOURCE);
        suite.test("language: the source is read", () ->
                isAtLeast(1, read.classes(), "classes"));
        for (String[] rule : RULES) {
            suite.test(rule[1], () -> {
                if (!read.faults(rule[0]).isEmpty()) {
                    throw new AssertionError(read.faults(rule[0]).toString());
                }
            });
        }
        suite.test("language 8: no method calls itself, nor through others", () ->
                isAtLeast(1, read.deepestCall(), "calls deep"));
        suite.test("language 11: calls go at most 8 deep", () ->
                isAtLeast(read.deepestCall(), MOST_CALLS_DEEP, "calls deep are free"));
        suite.test("language 11: the file has at most 12 classes", () ->
                isAtLeast(read.classes(), MOST_CLASSES, "classes are free"));
    }

    private static void isAtLeast(int least, int got, String what) {
        if (got < least) {
            throw new AssertionError(got + " " + what + ", at least " + least);
        }
    }
}
