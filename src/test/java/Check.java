/** What the tests share: they tell every answer that is not the one due, and end with exit code 1 if there was one. */
final class Check {
    /** A call of the class under test; a boolean answer counts as it is. */
    interface Call {
        Object answer();
    }

    private int wrong = 0;
    private int asked = 0;
    private String sentence = "";

    /** The document's words that the next answers are asked about; what is not as due is told under them. */
    void sentence(String words) {
        sentence = "\"" + words + "\": ";
    }

    void due(String call, Object want, Object got) {
        asked++;
        if (!want.equals(got)) {
            wrong++;
            System.out.println(sentence + call + " answered " + got + ", due is " + want);
        }
    }

    void refused(String call, Class<? extends RuntimeException> want, Call made) {
        due(call, "throws." + want.getSimpleName(), outcome(made));
    }

    /** The answer, or throws. and the exception's name. */
    static Object outcome(Call made) {
        try {
            return made.answer();
        } catch (RuntimeException e) {
            return "throws." + e.getClass().getSimpleName();
        }
    }

    void end(String name) {
        System.out.println(name + ": " + asked + " answers looked at, " + wrong + " not as due");
        if (wrong != 0) {
            System.exit(1);
        }
    }
}
