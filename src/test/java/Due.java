/** What is due: counts the answers that were looked at, and prints each that is not as due. */
final class Due {
    private static int looked = 0;
    private static int wrong = 0;

    private Due() {
    }

    interface Call {
        Object answer();
    }

    static void same(String what, Object got, Object want) {
        looked++;
        if (!want.equals(got)) {
            wrong++;
            System.out.println(what + " answered " + got + ", due is " + want);
        }
    }

    /** The call throws just that exception (none of the machine's own below it), and changes nothing. */
    static void refused(Pulsemesh x, String what, Class<? extends RuntimeException> want, Call call) {
        long before = x.digest();
        same(what + " throws", thrownBy(call), want.getName());
        same(what + " leaves the digest", x.digest(), before);
    }

    private static String thrownBy(Call call) {
        try {
            return "nothing, but answers " + call.answer();
        } catch (RuntimeException e) {
            return e.getClass().getName();
        }
    }

    static void end(String test) {
        System.out.println(test + ": " + looked + " answers looked at, " + wrong + " not as due");
        if (looked == 0 || wrong != 0) {
            System.exit(1);
        }
    }
}
