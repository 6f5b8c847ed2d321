import java.util.ArrayList;
import java.util.List;

/** What the tests have in common: counting of answers that are not due, and ways to write and read texts. */
final class Checks {
    private static final int NONE = -9;

    interface Call {
        long run();
    }

    private int checked = 0;
    private int wrong = 0;
    private String part = "";

    void part(String name) {
        part = name;
    }

    void due(String what, Object got, Object want) {
        checked++;
        if (!got.equals(want)) {
            wrong++;
            if (wrong <= 50) {
                System.out.println(part + ": " + what + " answered " + got + ", due is " + want);
            }
        }
    }

    void due(String what, long got, long want) {
        due(what, (Object) got, (Object) want);
    }

    /** The call throws just this exception. */
    void thrown(String what, Class<?> exception, Call call) {
        due(what, answer(call), "throws " + exception.getSimpleName());
    }

    void end() {
        System.out.println(checked + " answers checked, " + wrong + " wrong");
        if (wrong > 0) {
            System.exit(1);
        }
    }

    boolean allDue() {
        return wrong == 0;
    }

    static String answer(Call call) {
        try {
            return Long.toString(call.run());
        } catch (RuntimeException e) {
            return "throws " + e.getClass().getSimpleName();
        }
    }

    static Keys write(Keys x, String text) {
        x.clearText();
        for (char c : text.toCharArray()) {
            x.append(c);
        }
        return x;
    }

    static Keys loaded(String text) {
        Keys x = write(new Keys(), text);
        x.load();
        return x;
    }

    static int added(Keys x, String text) {
        return write(x, text).add();
    }

    static String key(Keys x, int i) {
        StringBuilder key = new StringBuilder();
        for (int k = 0; x.key(i, k) != NONE; k++) {
            key.append((char) x.key(i, k));
        }
        return key.toString();
    }

    static String keys(Keys x) {
        List<String> keys = new ArrayList<>();
        for (int i = 0; i < x.about(0); i++) {
            keys.add(key(x, i));
        }
        return String.join(" ", keys);
    }

    static String name(Keys x, int i, int a) {
        StringBuilder name = new StringBuilder();
        for (int k = 0; x.letter(i, a, k) != NONE; k++) {
            name.append((char) x.letter(i, a, k));
        }
        return name.toString();
    }

    static String told(Keys x, int i) {
        List<String> names = new ArrayList<>();
        for (int a = 0; a < x.work(i, 1); a++) {
            names.add(name(x, i, a));
        }
        return String.join(",", names) + ":" + x.work(i, 0) + ":" + name(x, i, x.work(i, 1));
    }

    static String order(Keys x) {
        StringBuilder order = new StringBuilder();
        for (int p = 0; x.at(p) != NONE; p++) {
            order.append(p == 0 ? "" : " ").append(x.at(p));
        }
        return order.toString();
    }

    /** What can be asked for by numbers, of the whole and of each work. */
    static String numbers(Keys x) {
        StringBuilder numbers = new StringBuilder();
        for (int what = 0; what <= 7; what++) {
            numbers.append(x.about(what)).append(' ');
        }
        for (int what = 0; what <= 2; what++) {
            numbers.append(x.printed(what)).append(' ');
        }
        int works = x.about(0);
        for (int i = 0; i < works; i++) {
            numbers.append("work ").append(i).append(": ");
            for (int what = 0; what <= 6; what++) {
                numbers.append(x.work(i, what)).append(' ');
            }
        }
        return numbers.toString();
    }

    /** What can be seen without changing it; of many works the letters of the last one only, for calls are few. */
    static String picture(Keys x) {
        StringBuilder seen = new StringBuilder(numbers(x));
        int works = x.about(0);
        for (int i = works > 5 ? works - 1 : 0; i < works; i++) {
            seen.append(' ').append(told(x, i)).append(' ').append(key(x, i));
        }
        seen.append(" order ").append(order(x)).append(" text ").append(x.errorPosition()).append(' ').append(x.meaning());
        return seen.append(' ').append(x.printedMeaning()).toString();
    }

    /** All that can be seen, and then all that can be undone, restored and loaded; the object is used up by it. */
    static String examined(Keys x) {
        StringBuilder seen = new StringBuilder(picture(x));
        String undone = answer(() -> x.undo());
        while (!undone.startsWith("throws")) {
            seen.append("\nundo ").append(undone).append(": ").append(numbers(x));
            undone = answer(() -> x.undo());
        }
        seen.append("\nundo ").append(undone);
        for (int slot = 0; slot <= 1; slot++) {
            int from = slot;
            String restored = answer(() -> x.restore(from));
            seen.append("\nrestore ").append(restored).append(restored.startsWith("throws") ? "" : numbers(x));
        }
        String loaded = answer(() -> x.load());
        boolean refused = loaded.startsWith("throws");
        seen.append("\nload ").append(loaded).append(refused ? "" : numbers(x) + told(x, x.about(0) - 1));
        return seen.append("\ntext of ").append(x.clearText()).toString();
    }
}
