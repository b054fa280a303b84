import java.lang.reflect.Array;
import java.lang.reflect.Field;
import java.lang.reflect.Modifier;
import java.util.List;

/** Compares answers with those that are due, and counts the wrong ones. */
final class Due {
    static final Class<IndexOutOfBoundsException> NO_SUCH = IndexOutOfBoundsException.class;
    static final Class<IllegalArgumentException> BAD = IllegalArgumentException.class;
    static final Class<UnsupportedOperationException> MAY_NOT = UnsupportedOperationException.class;
    static final Class<IllegalStateException> FULL = IllegalStateException.class;
    static final Class<java.util.NoSuchElementException> NONE = java.util.NoSuchElementException.class;

    private static int wrong = 0;
    private static int asked = 0;

    private Due() {
    }

    /** A call whose answer is thrown away. */
    interface Call {
        void run();
    }

    /** A call with a number that a test varies. */
    interface Numbered {
        void run(int number);
    }

    static void is(String call, long got, long want) {
        compare(call, String.valueOf(got), String.valueOf(want));
    }

    static void is(String call, char got, char want) {
        compare(call, String.valueOf(got), String.valueOf(want));
    }

    static void is(String call, boolean got, boolean want) {
        compare(call, String.valueOf(got), String.valueOf(want));
    }

    static void is(String call, double got, double want) {
        compare(call, String.valueOf(got), String.valueOf(want));
    }

    static void is(String call, String got, String want) {
        compare(call, got, want);
    }

    private static void compare(String call, String got, String want) {
        asked++;
        if (!got.equals(want)) {
            wrong++;
            System.out.println(call + " answered " + got + ", due is " + want);
        }
    }

    /** The call must throw just this exception, by a throw of the class itself, and change nothing. */
    static void fails(String name, TwofrontArcade arcade, Class<? extends RuntimeException> want, Call call) {
        List<String> answers = Answers.of(arcade);
        String before = stateOf(arcade);
        String got = "nothing";
        try {
            call.run();
        } catch (RuntimeException e) {
            got = e.getClass().getName();
        }
        compare(name + " throws", got, want.getName());
        compare(name + " changes", stateOf(arcade).equals(before) ? "nothing" : "something", "nothing");
        compareAnswers(name, Answers.of(arcade), answers);
    }

    private static void compareAnswers(String name, List<String> got, List<String> want) {
        for (int i = 0; i < want.size(); i++) {
            if (!got.get(i).equals(want.get(i))) {
                compare("behind " + name + " a call", got.get(i), want.get(i));
                return;
            }
        }
        compare("behind " + name + " all calls", "as before", "as before");
    }

    /** Numbers on both sides of those from 0 to below the count are no numbers of a unit, a shop or a crew. */
    static void noSuch(String name, TwofrontArcade arcade, int count, Numbered call) {
        for (int number : new int[] {Integer.MIN_VALUE, -1, count, count + 1, Integer.MAX_VALUE}) {
            fails(name + " of the number " + number, arcade, NO_SUCH, () -> call.run(number));
        }
    }

    /** Numbers on both sides of those that are allowed are out of range. */
    static void outOfRange(String name, TwofrontArcade arcade, int least, int most, Numbered call) {
        for (int number : new int[] {Integer.MIN_VALUE, least - 1, most + 1, Integer.MAX_VALUE}) {
            fails(name + " of " + number, arcade, BAD, () -> call.run(number));
        }
    }

    /** All that an object holds, so that a test can tell whether a call changed anything. */
    static String stateOf(Object object) {
        StringBuilder text = new StringBuilder();
        describe(object, text);
        return text.toString();
    }

    private static void describe(Object object, StringBuilder text) {
        if (object == null || object.getClass().getPackageName().startsWith("java.")) {
            text.append(object).append(';');
        } else if (object.getClass().isArray()) {
            for (int i = 0; i < Array.getLength(object); i++) {
                describe(Array.get(object, i), text);
            }
        } else {
            for (Field field : object.getClass().getDeclaredFields()) {
                if (!Modifier.isStatic(field.getModifiers())) {
                    describe(valueOf(object, field), text.append(field.getName()).append('='));
                }
            }
        }
    }

    private static Object valueOf(Object object, Field field) {
        try {
            field.setAccessible(true);
            return field.get(object);
        } catch (IllegalAccessException e) {
            throw new AssertionError(e);
        }
    }

    static void end(String test) {
        if (wrong != 0) {
            System.out.println(test + ": " + wrong + " of " + asked + " answers are not as due");
            System.exit(1);
        }
        System.out.println(test + ": " + asked + " answers are as due");
    }
}
