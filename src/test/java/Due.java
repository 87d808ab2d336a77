/** Counts and prints the answers that are not the ones that are due. */
final class Due {
    interface Call {
        Object answer();
    }

    interface Deed {
        void call();
    }

    private int looked = 0;
    private int wrong = 0;

    void is(String call, Object want, Call made) {
        compare(call, String.valueOf(want), outcome(made));
    }

    /** The class itself and not one below it: a caller is promised the exception that the document names. */
    void fails(String call, Class<? extends RuntimeException> want, Call made) {
        compare(call, "throws." + want.getSimpleName(), outcome(made));
    }

    void failsToDo(String call, Class<? extends RuntimeException> want, Deed made) {
        fails(call, want, () -> {
            made.call();
            return "nothing";
        });
    }

    void compare(String call, String want, String got) {
        looked++;
        if (!want.equals(got)) {
            wrong++;
            System.out.println(call + " answered " + got + ", due is " + want);
        }
    }

    static String outcome(Call made) {
        try {
            return String.valueOf(made.answer());
        } catch (RuntimeException e) {
            return "throws." + e.getClass().getSimpleName();
        }
    }

    void end() {
        System.out.println(looked + " answers looked at, " + wrong + " wrong");
        System.exit(wrong == 0 && looked > 0 ? 0 : 1);
    }
}
