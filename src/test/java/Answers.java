import java.util.NoSuchElementException;

/** What the tests share: answers are held against those that are due, and the wrong ones counted. */
abstract class Answers {
    static final Class<? extends Exception> INDEX = IndexOutOfBoundsException.class;
    static final Class<? extends Exception> ARGUMENT = IllegalArgumentException.class;
    static final Class<? extends Exception> STATE = IllegalStateException.class;
    static final Class<? extends Exception> ELEMENT = NoSuchElementException.class;
    static final Class<? extends Exception> UNSUPPORTED = UnsupportedOperationException.class;
    static final Class<? extends Exception> ARITHMETIC = ArithmeticException.class;

    static final int LEAST_INT = Integer.MIN_VALUE;
    static final int GREATEST_INT = Integer.MAX_VALUE;

    private static int wrong = 0;
    private static String under = "";

    interface Ask {
        Object answer();
    }

    /** What is said ahead of each wrong answer from here on. */
    static void under(String words) {
        under = words.isEmpty() ? "" : words + "\n    ";
    }

    static void fail(String what) {
        wrong++;
        System.out.println(under + what);
    }

    static void require(boolean holds, String what) {
        if (!holds) {
            fail(what);
        }
    }

    static void due(String what, Object got, Object want) {
        require(want.equals(got), what + " answered " + got + ", due is " + want);
    }

    static void thrown(String what, Class<? extends Exception> want, Ask ask) {
        try {
            Object got = ask.answer();
            fail(what + " answered " + got + ", due is " + want.getSimpleName());
        } catch (RuntimeException e) {
            require(e.getClass() == want, what + " threw " + e + ", due is " + want.getSimpleName());
        }
    }

    /** Ends the program with exit code 1 if an answer was wrong. */
    static void end() {
        System.out.println(wrong == 0 ? "all answers are as due" : wrong + " answers are not as due");
        if (wrong != 0) {
            System.exit(1);
        }
    }
}
