import java.util.ArrayList;
import java.util.HashSet;

/** Tests by name. Each is run alone, fails by whatever it throws, and has a time within which it must end. */
final class Suite {
    private static final long MOST_MILLISECONDS = 60_000;

    private final ArrayList<String> names = new ArrayList<>();
    private final ArrayList<Runnable> bodies = new ArrayList<>();
    private final HashSet<String> known = new HashSet<>();
    private int passed = 0;
    private int failed = 0;
    private boolean stuck = false;

    void test(String name, Runnable body) {
        if (!known.add(name)) {
            throw new IllegalArgumentException("two tests have the name " + name);
        }
        names.add(name);
        bodies.add(body);
    }

    int size() {
        return names.size();
    }

    void run() {
        for (int at = 0; at < names.size(); at++) {
            String trouble = troubleOf(bodies.get(at));
            if (trouble.isEmpty()) {
                passed++;
            } else {
                failed++;
                System.out.println("FAILED " + names.get(at) + "\n    " + trouble);
            }
        }
    }

    /** Says how many passed and how many failed, and ends the program with that. */
    void close() {
        System.out.println(passed + " passed, " + failed + " failed");
        System.exit(failed == 0 && passed > 0 ? 0 : 1);
    }

    private String troubleOf(Runnable body) {
        // A test that does not end keeps its thread busy, so what comes behind it would have no fair time.
        if (stuck) {
            return "not run, as a test ahead of it did not end";
        }
        Attempt attempt = new Attempt(body);
        Thread thread = new Thread(attempt);
        thread.setDaemon(true);
        thread.start();
        try {
            thread.join(MOST_MILLISECONDS);
        } catch (InterruptedException e) {
            return "interrupted";
        }
        stuck = thread.isAlive();
        return stuck ? "did not end within " + MOST_MILLISECONDS + " ms" : attempt.trouble;
    }

    private static final class Attempt implements Runnable {
        private final Runnable body;
        private volatile String trouble = "";

        Attempt(Runnable body) {
            this.body = body;
        }

        @Override
        public void run() {
            try {
                body.run();
            } catch (Throwable e) {
                trouble = e + whereInTests(e);
            }
        }

        private static String whereInTests(Throwable e) {
            for (StackTraceElement element : e.getStackTrace()) {
                String file = String.valueOf(element.getFileName());
                if (file.endsWith("Tests.java")) {
                    return " at " + file + ":" + element.getLineNumber();
                }
            }
            return "";
        }
    }
}
