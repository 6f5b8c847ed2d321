import java.util.ArrayList;
import java.util.List;

/** What the tests have in common: counting of answers that are not due, and ways to write and read texts. */
final class Checks {
    interface Call {
        long run();
    }

    private int checked = 0;
    private int wrong = 0;
    private String part = "";

    void part(String name) {
        part = name;
    }

    void due(String what, Object got, Object want) {
        checked++;
        if (!got.equals(want)) {
            wrong++;
            if (wrong <= 50) {
                System.out.println(part + ": " + what + " answered " + got + ", due is " + want);
            }
        }
    }

    void due(String what, long got, long want) {
        due(what, (Object) got, (Object) want);
    }

    /** The call throws just this exception, and nothing that can be seen has changed. */
    void refused(String what, CitationKeys x, Class<?> exception, Call call) {
        String before = picture(x);
        due(what, answer(call), "throws " + exception.getSimpleName());
        due("after " + what + " the object", picture(x), before);
    }

    void end() {
        System.out.println(checked + " answers checked, " + wrong + " wrong");
        if (wrong > 0) {
            System.exit(1);
        }
    }

    boolean allDue() {
        return wrong == 0;
    }

    static String answer(Call call) {
        try {
            return Long.toString(call.run());
        } catch (RuntimeException e) {
            return "throws " + e.getClass().getSimpleName();
        }
    }

    static CitationKeys write(CitationKeys x, String text) {
        x.clearText();
        for (char c : text.toCharArray()) {
            x.append(c);
        }
        return x;
    }

    static CitationKeys loaded(String text) {
        CitationKeys x = write(new CitationKeys(), text);
        x.load();
        return x;
    }

    static int added(CitationKeys x, String text) {
        return write(x, text).add();
    }

    static String key(CitationKeys x, int i) {
        StringBuilder key = new StringBuilder();
        for (int k = 0; x.key(i, k) != CitationKeys.NONE; k++) {
            key.append((char) x.key(i, k));
        }
        return key.toString();
    }

    static String keys(CitationKeys x) {
        List<String> keys = new ArrayList<>();
        for (int i = 0; i < x.about(0); i++) {
            keys.add(key(x, i));
        }
        return String.join(" ", keys);
    }

    static String name(CitationKeys x, int i, int a) {
        StringBuilder name = new StringBuilder();
        for (int k = 0; x.letter(i, a, k) != CitationKeys.NONE; k++) {
            name.append((char) x.letter(i, a, k));
        }
        return name.toString();
    }

    static String told(CitationKeys x, int i) {
        List<String> names = new ArrayList<>();
        for (int a = 0; a < x.work(i, 1); a++) {
            names.add(name(x, i, a));
        }
        return String.join(",", names) + ":" + x.work(i, 0) + ":" + name(x, i, x.work(i, 1));
    }

    static String order(CitationKeys x) {
        StringBuilder order = new StringBuilder();
        for (int p = 0; x.at(p) != CitationKeys.NONE; p++) {
            order.append(p == 0 ? "" : " ").append(x.at(p));
        }
        return order.toString();
    }

    /** All that can be seen without changing it. */
    static String picture(CitationKeys x) {
        StringBuilder seen = new StringBuilder();
        for (int what = 0; what <= 7; what++) {
            seen.append(x.about(what)).append(' ');
        }
        for (int i = 0; i < x.about(0); i++) {
            seen.append(told(x, i)).append(' ').append(key(x, i)).append(' ');
        }
        for (int what = 0; what <= 2; what++) {
            seen.append(x.printed(what)).append(' ');
        }
        seen.append(x.errorPosition()).append(' ').append(x.meaning()).append(' ').append(x.printedMeaning());
        return seen.append(" order ").append(order(x)).toString();
    }
}
