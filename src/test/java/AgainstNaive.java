import java.lang.reflect.InvocationTargetException;
import java.lang.reflect.Method;
import java.util.ArrayList;
import java.util.List;

/**
 * Long runs of calls, the same at each time, made on a Stonecourt and on a NaiveCourt; every answer and every exception
 * has to be the same. 'java AgainstNaive 5000' makes more runs than .ci/run does.
 */
public final class AgainstNaive {
    private static final char[] SIDES = {'b', 'w', 'b', 'w', 'b', 'w', 'x'};
    private static final char[] RULES = {'s', 'k', 'a', 'p', 'w', 'k', 's', 'w', 'q'};
    private static final char[] THINGS = {'b', 'w', '.', '#', '?', '?', '?', '?', '!'};
    private static final int[] STRANGE = {-1, -2, 7, 8, 99, 1000, Integer.MAX_VALUE, Integer.MIN_VALUE, 64, -64};

    private final List<Method> fast = new ArrayList<>();
    private final List<Method> slow = new ArrayList<>();
    private final StringBuilder told = new StringBuilder();
    private long seed;
    private Stonecourt court;
    private NaiveCourt naive;
    private int width;
    private int height;
    private int wrong;

    private AgainstNaive() throws NoSuchMethodException {
        for (Method method : Stonecourt.class.getDeclaredMethods()) {
            if (!java.lang.reflect.Modifier.isPublic(method.getModifiers())) continue;
            fast.add(method);
            slow.add(NaiveCourt.class.getMethod(method.getName(), method.getParameterTypes()));
        }
        fast.sort((a, b) -> a.getName().compareTo(b.getName()));
        slow.sort((a, b) -> a.getName().compareTo(b.getName()));
    }

    /** A number from 0 to below most, by a written rule, so that runs are the same at each time. */
    private int draw(int most) {
        seed = seed * 6364136223846793005L + 1442695040888963407L;
        return (int) ((seed >>> 33) % most);
    }

    private int x() {
        return draw(40) == 0 ? STRANGE[draw(STRANGE.length)] : draw(width);
    }

    private int y() {
        return draw(40) == 0 ? STRANGE[draw(STRANGE.length)] : draw(height);
    }

    private int number(int least, int most) {
        return draw(25) == 0 ? (draw(2) == 0 ? least - 1 : draw(2) == 0 ? most + 1 : STRANGE[draw(STRANGE.length)])
            : least + draw(most - least + 1);
    }

    private static String answer(Object on, Method method, Object... arguments) {
        try {
            return String.valueOf(method.invoke(on, arguments));
        } catch (InvocationTargetException e) {
            return "throws " + e.getCause().getClass().getSimpleName();
        } catch (IllegalAccessException e) {
            throw new IllegalStateException(e);
        }
    }

    private String call(String name, Object... arguments) {
        for (int i = 0; i < fast.size(); i++) {
            if (!fast.get(i).getName().equals(name)) continue;
            String got = answer(court, fast.get(i), arguments);
            String due = answer(naive, slow.get(i), arguments);
            told.append(name).append(java.util.Arrays.toString(arguments)).append(" = ").append(due).append('\n');
            if (!got.equals(due)) {
                wrong++;
                System.out.println(told + "  answered " + got);
            }
            return due;
        }
        throw new IllegalStateException(name);
    }

    private void tell() {
        int what = draw(10);
        if (what == 0 || what == 1) {
            int w = number(2, draw(3) == 0 ? 7 : 4);
            int h = number(2, draw(3) == 0 ? 7 : 4);
            if (!call("board", w, h).startsWith("throws")) {
                width = w;
                height = h;
            }
        } else if (what <= 3) {
            call("block", x(), y());
        } else if (what == 4) {
            call("handicap", x(), y());
        } else if (what == 5) {
            call("komi", number(-99, 99));
        } else if (what == 6) {
            call("clock", draw(3) == 0 ? 0 : number(0, draw(2) == 0 ? 3600 : 20), number(0, 5), number(1, draw(2) == 0 ? 60 : 5));
        } else if (what == 7) {
            call("pattern", number(0, 8), THINGS[draw(THINGS.length)]);
        } else {
            char rule = RULES[draw(RULES.length)];
            call("rule", rule, number(0, rule == 'k' ? 2 : 1));
        }
    }

    private void ask() {
        switch (draw(27)) {
            case 0 -> sweep();
            case 1 -> call("turn");
            case 2 -> call("at", x(), y());
            case 3 -> call("stones", x(), y());
            case 4 -> call("liberties", x(), y());
            case 5 -> call("prisoners", SIDES[draw(SIDES.length)]);
            case 6 -> call("moves");
            case 7 -> call("isOver");
            case 8 -> call("dead", x(), y());
            case 9 -> call("score", SIDES[draw(SIDES.length)]);
            case 10 -> call("margin");
            case 11 -> call("winner");
            case 12 -> call("isAlive", x(), y());
            case 13 -> call("safe", SIDES[draw(SIDES.length)]);
            case 14, 15 -> call("isCaught", x(), y(), number(1, 4));
            case 16 -> call("influence", x(), y());
            case 17 -> call("found");
            case 18 -> call("shape");
            case 19 -> call("periods", SIDES[draw(SIDES.length)]);
            case 20 -> call("value", number(0, depth()));
            case 21 -> call("best", number(1, depth()));
            case 22 -> call("loss", x(), y(), number(1, depth()));
            case 23 -> call("line");
            case 24 -> call("sign", number(0, 40));
            case 25 -> call("fullShare");
            default -> call("meanLiberties");
        }
    }

    private void sweep() {
        call("barred", x(), y());
        for (int p = 0; p < width * height && p < 12; p++) call("barred", p % width, p / width);
    }

    /** Whole trees of large boards take the naive court long. */
    private int depth() {
        return width * height <= 16 || draw(10) == 0 ? 2 : 1;
    }

    private void end() {
        int what = draw(20);
        if (what == 0) {
            call("resign");
        } else if (what < 8) {
            call("pass");
            if (draw(2) == 0) call("pass");
            for (int i = draw(4); i > 0; i--) call("dead", x(), y());
            call("score", 'b');
            call("score", 'w');
            call("winner");
        } else if (what < 10) {
            call("think", number(1, draw(2) == 0 ? 600 : 12));
        } else {
            call("undo");
        }
    }

    /** A point where a move is not barred, so that games come to captures and kos; any point if there is none. */
    private void playOn() {
        for (int tries = 0; tries < 8; tries++) {
            int x = draw(width);
            int y = draw(height);
            if (answerOfBarred(x, y).equals("-") || tries == 7) {
                call("play", x, y);
                return;
            }
        }
    }

    private String answerOfBarred(int x, int y) {
        try {
            return String.valueOf(naive.barred(x, y));
        } catch (RuntimeException e) {
            return "";
        }
    }

    private void goOn() {
        if (!call("isOver").equals("true")) return;
        int what = draw(4);
        if (what == 0 || what == 1) call("undo");
        else if (what == 2) call("start");
    }

    private void run(long number) {
        seed = number;
        court = new Stonecourt();
        naive = new NaiveCourt();
        told.setLength(0);
        told.append("run ").append(number).append('\n');
        width = 5;
        height = 5;
        for (int i = draw(16); i > 0; i--) tell();
        call("start");
        if (draw(3) == 0) tell();
        int steps = 20 + draw(140);
        for (int i = 0; i < steps && wrong == 0; i++) {
            int what = draw(100);
            if (what < 55) playOn();
            else if (what < 60) call("play", x(), y());
            else if (what < 64) call("think", number(1, 12));
            else if (what < 65) call("pass");
            else if (what < 92) ask();
            else if (what < 96) end();
            else if (what < 98) tell();
            else if (draw(5) == 0) call("start");
            call("checksum");
            call("isSound");
            if (draw(4) == 0) goOn();
        }
        call("margin");
        call("line");
    }

    public static void main(String[] arguments) throws NoSuchMethodException {
        AgainstNaive test = new AgainstNaive();
        long runs = arguments.length > 0 ? Long.parseLong(arguments[0]) : 1500;
        for (long number = 1; number <= runs && test.wrong == 0; number++) test.run(number);
        System.out.println(runs + " runs against the naive court, " + test.wrong + " wrong");
        if (test.wrong != 0) System.exit(1);
    }
}
