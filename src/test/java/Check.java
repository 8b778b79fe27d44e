import java.lang.reflect.Array;
import java.lang.reflect.Field;
import java.lang.reflect.Modifier;

/** What the tests share: comparing answers, runs of steps, and a picture of an object's whole state. */
final class Check {
    static final int[] ASKING_AND_VOTING = {2, 4, 5, 5, 4, 5, 7, 4, 5, 5, 4, 5, 8};
    static final int EJECT_1 = entry(2, 1, 0, 0, 0, 0);
    private static int wrong;
    private static int compared;

    interface Call {
        Object answer();
    }

    static void due(String what, Object got, Object want) {
        compared++;
        if (!got.equals(want)) {
            wrong++;
            System.out.println(what + ": answered " + got + ", due is " + want);
        }
    }

    /** The call throws just that exception, and changes nothing. */
    static void thrown(DiskArbiters x, String what, Class<? extends RuntimeException> want, Call call) {
        String before = picture(x);
        due(what, answerOf(call), "throws." + want.getSimpleName());
        due(what + ", state behind it", picture(x), before);
    }

    static Object answerOf(Call call) {
        try {
            return call.answer();
        } catch (RuntimeException e) {
            return "throws." + e.getClass().getSimpleName();
        }
    }

    static void steps(DiskArbiters x, String what, int controller, int... answers) {
        for (int i = 0; i < answers.length; i++) {
            due(what + ", step " + i + " of controller " + controller, x.step(controller), answers[i]);
        }
    }

    /** A round without a rival: the controller logs an entry. */
    static void logOne(DiskArbiters x, String what, int controller) {
        steps(x, what, controller, ASKING_AND_VOTING);
    }

    /** The controller wishes and starts that often: all rounds but the last are lost by crashes. */
    static void startOften(DiskArbiters x, int controller, int times) {
        x.want(controller, 2, controller, 0, 0);
        for (int i = 0; i < times; i++) {
            x.crash(controller);
            x.restart(controller);
            steps(x, "start", controller, 2);
            due("round of start " + i, x.round(controller), 3 * i + controller + 1);
        }
    }

    /** Controller 0 has a vote, for EJECT_1: its next step writes at disk 0 for phase 2. */
    static DiskArbiters voted() {
        DiskArbiters x = new DiskArbiters();
        x.want(0, 2, 1, 0, 0);
        steps(x, "to the vote", 0, 2, 4, 5, 5, 4, 5, 7);
        return x;
    }

    static void block(DiskArbiters x, String what, int d, int controller, int place, int... words) {
        for (int i = 0; i < 10; i++) {
            due(what + ", word " + i, x.word(d, controller, place, i), i < words.length ? words[i] : 0);
        }
    }

    static int entry(int kind, int cartridge, int drive, int client, int controller, int wish) {
        return kind + 8 * cartridge + 64 * drive + 256 * client + 1024 * controller + 4096 * wish;
    }

    /** All fields of the object and of what it holds; no call of the face is used up for it. */
    static String picture(Object x) {
        StringBuilder text = new StringBuilder();
        try {
            draw(text, x);
        } catch (IllegalAccessException e) {
            throw new IllegalStateException(e);
        }
        return text.toString();
    }

    private static void draw(StringBuilder text, Object x) throws IllegalAccessException {
        if (x == null || x instanceof Number || x instanceof Boolean) {
            text.append(x).append(' ');
        } else if (x.getClass().isArray()) {
            for (int i = 0; i < Array.getLength(x); i++) {
                draw(text, Array.get(x, i));
            }
        } else {
            for (Field field : x.getClass().getDeclaredFields()) {
                if (!Modifier.isStatic(field.getModifiers())) {
                    field.setAccessible(true);
                    text.append(field.getName()).append('=');
                    draw(text, field.get(x));
                }
            }
        }
    }

    static void end() {
        System.out.println(wrong == 0 ? compared + " answers are as due" : wrong + " answers are not as due");
        if (wrong != 0) {
            System.exit(1);
        }
    }

    private Check() {
    }
}
