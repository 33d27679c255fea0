/** What is due: counts the answers that were looked at, and prints each that is not as due. */
final class Due {
    private static int looked = 0;
    private static int wrong = 0;
    private static int lookedAhead = 0;
    private static String words = "";

    private Due() {
    }

    interface Call {
        Object answer();
    }

    /** From here on what is looked at is due by those words, which have to stand in that part of the document. */
    static void by(String heading, String quoted) {
        closeWords();
        words = heading + ", \"" + quoted + "\": ";
        if (!Doc.quote(heading, quoted)) {
            wrong++;
            System.out.println(words + "the document does not say that there");
        }
    }

    /** Goes through those tests, each of them even if one ahead of it ended by an exception. */
    static void each(Runnable... tests) {
        for (Runnable test : tests) {
            try {
                test.run();
            } catch (RuntimeException e) {
                wrong++;
                System.out.println(words + "ended by " + e);
            }
        }
    }

    /** Each sentence that was quoted has to be looked at by itself. */
    private static void closeWords() {
        if (!words.isEmpty() && looked == lookedAhead) {
            wrong++;
            System.out.println(words + "nothing was looked at");
        }
        lookedAhead = looked;
        words = "";
    }

    static void same(String what, Object got, Object want) {
        looked++;
        if (!want.equals(got)) {
            wrong++;
            System.out.println(words + what + " answered " + got + ", due is " + want);
        }
    }

    /** The call throws just that exception (none of the machine's own below it), and changes nothing. */
    static void refused(Pulsemesh x, String what, Class<? extends RuntimeException> want, Call call) {
        long before = x.digest();
        same(what + " throws", thrownBy(call), want.getName());
        same(what + " leaves the digest", x.digest(), before);
    }

    static String thrownBy(Call call) {
        try {
            return "nothing, but answers " + call.answer();
        } catch (RuntimeException e) {
            return e.getClass().getName();
        }
    }

    static void end(String test) {
        closeWords();
        System.out.println(test + ": " + looked + " answers looked at, " + wrong + " not as due");
        if (looked == 0 || wrong != 0) {
            System.exit(1);
        }
    }
}
