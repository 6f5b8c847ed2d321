import java.util.Set;
import java.util.TreeSet;
import java.util.function.Supplier;
import java.util.function.ToLongFunction;
import java.util.stream.IntStream;

/**
 * What the tests of edges have in common. An edge is a case that a sentence of the document names: the last value
 * that is taken, the first that is refused, nothing there yet, no place left, a call that is refused.
 */
abstract class Edges {
    // By the document's words, so that a wrong constant of the class is seen.
    static final int NONE = -9;
    static final int GONE = -2;
    static final int MIN = Integer.MIN_VALUE;
    static final int MAX = Integer.MAX_VALUE;
    static final Class<?> INDEX = IndexOutOfBoundsException.class;
    static final Class<?> ARGUMENT = IllegalArgumentException.class;
    static final Class<?> STATE = IllegalStateException.class;

    private final Checks checks = new Checks();
    private final Set<String> names = new TreeSet<>();
    private final Set<Integer> promises = new TreeSet<>();

    /** Begins the case of a promise. */
    final void edge(int promise, String sentence) {
        promises.add(promise);
        edge("promise " + promise, sentence);
    }

    /** Begins a case of a part of the section "Terms". */
    final void edge(String part, String sentence) {
        String name = part + ", " + sentence;
        checks.part(name);
        if (!names.add(name)) {
            checks.due("the name of the case", "there twice", "there once");
        }
    }

    final void end(int firstPromise, int lastPromise) {
        checks.part("the tests");
        for (int promise = firstPromise; promise <= lastPromise; promise++) {
            due("promise " + promise + " has a case", promises.contains(promise), true);
        }
        System.out.print(names.size() + " cases, ");
        checks.end();
    }

    final void due(String what, Object got, Object want) {
        checks.due(what, got, want);
    }

    /** The call throws just this exception, and an object that is asked so differs in nothing from one that is not. */
    final void refused(String what, Supplier<Keys> maker, Class<?> exception, ToLongFunction<Keys> call) {
        Keys asked = maker.get();
        checks.thrown(what, exception, () -> call.applyAsLong(asked));
        due("all there is behind " + what, Checks.examined(asked), Checks.examined(maker.get()));
    }

    /** The call has the answer that is due, and an object that is asked so differs in nothing from one that is not. */
    final void unchanging(String what, Supplier<Keys> maker, long want, ToLongFunction<Keys> call) {
        Keys asked = maker.get();
        due(what, call.applyAsLong(asked), want);
        due("all there is behind " + what, Checks.examined(asked), Checks.examined(maker.get()));
    }

    /** The text is a list of one work, and the work is told by it. */
    final void taken(String text) {
        due("errorPosition() of " + text, Checks.write(new Keys(), text).errorPosition(), NONE);
        Keys x = Checks.loaded(text);
        due("works", x.about(0), 1);
        due("the work", Checks.told(x, 0), text);
    }

    /** The text is no list, with this error position, and nothing can be made of it. */
    final void noList(String text, int position) {
        due("errorPosition() of " + text, Checks.write(new Keys(), text).errorPosition(), position);
        refused("load() of " + text, () -> busyWith(text), STATE, x -> x.load());
        refused("add() of " + text, () -> busyWith(text), STATE, x -> x.add());
        refused("change(0) into " + text, () -> busyWith(text), STATE, x -> x.change(0));
    }

    /** Numbers out of a range: next to its ends, farther, and such as would be in it by their low bits alone. */
    static int[] outside(int low, int high) {
        return new int[] {low - 1, high + 1, low - 2, high + 2, low - 256, high + 256, low + 65536, low + (1 << 24),
            MIN + low, MIN + high, MIN, MAX};
    }

    /** Numbers from the one given on: the next hundred, and those round every power of two. */
    static int[] from(int least) {
        IntStream powers = IntStream.rangeClosed(5, 30).flatMap(n -> IntStream.of((1 << n) - 1, 1 << n, (1 << n) + least));
        IntStream far = IntStream.of(MAX - 1, MAX);
        return IntStream.concat(IntStream.range(least, least + 100), IntStream.concat(powers, far)).toArray();
    }

    static Keys nothing() {
        return new Keys();
    }

    /**
     * Three works of four that were there, in the order of years, with a printed list (one key is another work's now, two
     * are no work's), five remembered states, and other states saved in both slots.
     */
    static Keys busy() {
        Keys x = Checks.loaded("smi,li:1998:ow;smi:1898:a;z:2005:x");
        x.print();
        x.save(0);
        x.setOrder(1);
        x.remove(2);
        x.save(1);
        Checks.added(x, "z:2005:y");
        x.setYear(0, 1997);
        return x;
    }

    static Keys busyWith(String text) {
        return Checks.write(busy(), text);
    }

    /** As many works a:1998:t as are asked for; nothing is remembered; slot 0 has them, too. */
    static Keys alike(int works) {
        Keys x = Checks.write(new Keys(), "a:1998:t");
        for (int n = 0; n < works; n++) {
            x.add();
        }
        x.save(0);
        x.restore(0);
        return x;
    }

    /** One work, and its year is 1000 and the number of the actions that were done. */
    static Keys acted(int actions) {
        Keys x = Checks.loaded("a:1000:t");
        for (int n = 1; n <= actions; n++) {
            x.setYear(0, 1000 + n);
        }
        return x;
    }

    /** One work, two remembered states, and something saved in this slot only. */
    static Keys savedOnlyIn(int slot) {
        Keys x = acted(1);
        x.save(slot);
        x.setYear(0, 2000);
        return x;
    }

    static String keys(String text, int style) {
        Keys x = Checks.loaded(text);
        x.setStyle(style);
        return Checks.keys(x);
    }

    static String order(String text, int order) {
        Keys x = Checks.loaded(text);
        x.setOrder(order);
        return Checks.order(x);
    }

    static int meaning(Keys x, String text) {
        return Checks.write(x, text).meaning();
    }

    static int printedMeaning(Keys x, String text) {
        return Checks.write(x, text).printedMeaning();
    }

    static String printed(Keys x) {
        return x.printed(0) + " " + x.printed(1) + " " + x.printed(2);
    }
}
