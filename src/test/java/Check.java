import java.util.concurrent.Callable;

/** Counts the answers that are not as due, and prints each. */
final class Check {
    private final String name;
    private String sentence = "";
    private int asked = 0;
    private int wrong = 0;

    Check(String name) {
        this.name = name;
    }

    /** What follows tests this sentence of the document; a wrong answer is printed with it. */
    void sentence(String words) {
        sentence = " [" + words + "]";
    }

    void due(String call, Object got, Object want) {
        asked++;
        if (!want.equals(got)) {
            wrong++;
            System.out.println(name + ": " + call + " answered " + got + ", due is " + want + sentence);
        }
    }

    /** Due is this very exception, not one below it that the machine throws, and no change. */
    void refused(Clockmask theatre, String call, Class<? extends Exception> want, Callable<?> body) {
        String before = View.of(theatre);
        due(call, outcome(body), want.getSimpleName());
        due(call + ", what it changed", View.of(theatre), before);
    }

    static String outcome(Callable<?> body) {
        try {
            return String.valueOf(body.call());
        } catch (Exception e) {
            return e.getClass().getSimpleName();
        }
    }

    void end() {
        System.out.println(name + ": " + asked + " answers, " + wrong + " not as due");
        if (wrong != 0) {
            System.exit(1);
        }
    }
}
