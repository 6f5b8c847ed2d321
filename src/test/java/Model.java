import java.util.ArrayList;
import java.util.Collections;
import java.util.Comparator;
import java.util.LinkedHashMap;
import java.util.List;
import java.util.Map;
import java.util.regex.Matcher;
import java.util.regex.Pattern;

/** The document once more, by texts, lists and sorting: slow, and made another way than the class. */
final class Model {
    private static final int NONE = -9;
    private static final String NAME = "[a-z]{1,8}";
    private static final String WORK = NAME + "(?:," + NAME + "){0,3}:[12][0-9]{3}:" + NAME;
    private static final Pattern LIST = Pattern.compile(WORK + "(?:;" + WORK + ")*");

    /** A work; which object it is tells which work it is, also when it has been changed. */
    private static final class Book {
        List<String> authors = new ArrayList<>();
        int year;
        String title;

        void tell(String text) {
            String[] parts = text.split(":");
            authors = List.of(parts[0].split(","));
            year = Integer.parseInt(parts[1]);
            title = parts[2];
        }

        String stem(int style, int inYear) {
            String digits = Integer.toString(inYear);
            String first = authors.get(0);
            switch (style) {
                case 0: return first.substring(0, Math.min(3, first.length())) + digits.substring(2);
                case 1: return String.join("", authors.stream().map(a -> a.substring(0, 1)).toList()) + digits;
                case 2: return first + (authors.size() > 1 ? "+" : "") + digits.substring(2);
                default: return first.substring(0, 1) + title.substring(0, 1) + digits;
            }
        }
    }

    private static final class Shelf {
        final List<Book> books = new ArrayList<>();
        int style;
        int order;
        /** Each printed key with its work, or null. */
        final Map<String, Book> printed = new LinkedHashMap<>();

        Shelf copy() {
            Shelf copy = new Shelf();
            copy.style = style;
            copy.order = order;
            Map<Book, Book> copies = new java.util.IdentityHashMap<>();
            for (Book book : books) {
                Book twin = new Book();
                twin.authors = book.authors;
                twin.year = book.year;
                twin.title = book.title;
                copies.put(book, twin);
                copy.books.add(twin);
            }
            printed.forEach((key, book) -> copy.printed.put(key, book == null ? null : copies.get(book)));
            return copy;
        }

        List<Book> sorted() {
            // A blank is before every letter, so rows joined by blanks are in the order of rows.
            Comparator<Book> rows = Comparator.comparing(b -> String.join(" ", b.authors));
            Comparator<Book> years = Comparator.comparing(b -> b.year);
            Comparator<Book> titles = Comparator.comparing(b -> b.title);
            List<Book> sorted = new ArrayList<>(books);
            Collections.sort(sorted, (order == 0 ? rows.thenComparing(years) : years.thenComparing(rows))
                .thenComparing(titles));
            return sorted;
        }

        List<String> keys() {
            Map<String, List<Book>> groups = new LinkedHashMap<>();
            for (Book book : sorted()) {
                groups.computeIfAbsent(book.stem(style, book.year), s -> new ArrayList<>()).add(book);
            }
            List<String> keys = new ArrayList<>();
            for (Book book : books) {
                String stem = book.stem(style, book.year);
                List<Book> group = groups.get(stem);
                keys.add(group.size() == 1 ? stem : stem + (char) ('a' + group.indexOf(book)));
            }
            return keys;
        }

        int lettered() {
            return (int) keys().stream().filter(k -> Character.isLetter(k.charAt(k.length() - 1))).count();
        }

        int longest() {
            return keys().stream().mapToInt(String::length).max().orElse(0);
        }

        int printedCount(int what) {
            List<String> keys = keys();
            int found = 0;
            for (Map.Entry<String, Book> entry : printed.entrySet()) {
                int holder = keys.indexOf(entry.getKey());
                int kind = holder < 0 ? 1 : books.get(holder) == entry.getValue() ? 2 : 0;
                found += kind == what ? 1 : 0;
            }
            return found;
        }

        void add(String text) {
            Book book = new Book();
            book.tell(text);
            books.add(book);
        }

        void remove(int i) {
            Book gone = books.remove(i);
            printed.replaceAll((key, book) -> book == gone ? null : book);
        }

        void print() {
            List<String> keys = keys();
            printed.clear();
            for (int i = 0; i < keys.size(); i++) {
                printed.put(keys.get(i), books.get(i));
            }
        }
    }

    private String text = "";
    private Shelf now = new Shelf();
    private final List<Shelf> remembered = new ArrayList<>();
    private final Shelf[] slots = new Shelf[2];

    int append(int c) {
        argument(c >= 0 && c <= 255);
        state(text.length() < 100);
        text += (char) c;
        return text.length();
    }

    int clearText() {
        int before = text.length();
        text = "";
        return before;
    }

    int errorPosition() {
        if (LIST.matcher(text).matches()) {
            return NONE;
        }
        for (int n = 1; n <= text.length(); n++) {
            Matcher matcher = LIST.matcher(text.substring(0, n));
            if (!matcher.matches() && !matcher.hitEnd()) {
                return n - 1;
            }
        }
        return text.length();
    }

    int load() {
        state(LIST.matcher(text).matches());
        now = new Shelf();
        for (String one : text.split(";")) {
            now.add(one);
        }
        remembered.clear();
        slots[0] = null;
        slots[1] = null;
        return now.books.size();
    }

    int about(int what) {
        argument(what >= 0 && what <= 7);
        int[] numbers = {now.books.size(), now.style, now.order, now.lettered(),
            (int) now.books.stream().map(b -> b.stem(now.style, b.year)).distinct().count(), now.longest(),
            now.printed.size(), (int) now.printed.values().stream().filter(b -> b == null).count()};
        return numbers[what];
    }

    int work(int i, int what) {
        index(i);
        argument(what >= 0 && what <= 6);
        Book book = now.books.get(i);
        String key = now.keys().get(i);
        String stem = book.stem(now.style, book.year);
        int letter = key.length() > stem.length() ? key.charAt(stem.length()) - 'a' + 1 : 0;
        int sharing = (int) now.books.stream().filter(b -> b.stem(now.style, b.year).equals(stem)).count();
        return new int[] {book.year, book.authors.size(), book.title.length(), key.length(), letter,
            now.sorted().indexOf(book), sharing}[what];
    }

    int letter(int i, int a, int k) {
        index(i);
        Book book = now.books.get(i);
        argument(a >= 0 && a <= book.authors.size());
        argument(k >= 0);
        String name = a < book.authors.size() ? book.authors.get(a) : book.title;
        return k < name.length() ? name.charAt(k) : NONE;
    }

    int key(int i, int k) {
        index(i);
        argument(k >= 0);
        String key = now.keys().get(i);
        return k < key.length() ? key.charAt(k) : NONE;
    }

    int at(int place) {
        argument(place >= 0);
        return place < now.books.size() ? now.books.indexOf(now.sorted().get(place)) : NONE;
    }

    int meaning() {
        int found = now.keys().indexOf(text);
        return found < 0 ? NONE : found;
    }

    int printedMeaning() {
        if (!now.printed.containsKey(text)) {
            return NONE;
        }
        Book book = now.printed.get(text);
        return book == null ? -2 : now.books.indexOf(book);
    }

    int printed(int what) {
        argument(what >= 0 && what <= 2);
        return now.printedCount(what);
    }

    int add() {
        state(Pattern.matches(WORK, text) && now.books.size() < 16);
        remember();
        now.add(text);
        return now.books.size() - 1;
    }

    int change(int i) {
        index(i);
        state(Pattern.matches(WORK, text));
        remember();
        List<String> before = now.keys();
        now.books.get(i).tell(text);
        return differing(before, now.keys());
    }

    int setYear(int i, int year) {
        index(i);
        argument(year >= 1000 && year <= 2999);
        remember();
        List<String> before = now.keys();
        now.books.get(i).year = year;
        return differing(before, now.keys());
    }

    int remove(int i) {
        index(i);
        remember();
        List<String> before = now.keys();
        now.remove(i);
        before.remove(i);
        return differing(before, now.keys());
    }

    int setStyle(int style) {
        argument(style >= 0 && style <= 3);
        remember();
        int before = now.style;
        now.style = style;
        return before;
    }

    int setOrder(int order) {
        argument(order >= 0 && order <= 1);
        remember();
        List<String> before = now.keys();
        now.order = order;
        return differing(before, now.keys());
    }

    int print() {
        remember();
        now.print();
        return now.printed.size();
    }

    int undo() {
        state(!remembered.isEmpty());
        now = remembered.remove(remembered.size() - 1);
        return remembered.size();
    }

    int ifRemoved(int i) {
        index(i);
        List<String> before = now.keys();
        before.remove(i);
        Shelf copy = now.copy();
        copy.remove(i);
        return differing(before, copy.keys());
    }

    int freeYear(int i) {
        index(i);
        Book own = now.books.get(i);
        int best = NONE;
        for (int year = 1000; year <= 2999; year++) {
            String stem = own.stem(now.style, year);
            boolean taken = now.books.stream().anyMatch(b -> b != own && b.stem(now.style, b.year).equals(stem));
            if (!taken && (best == NONE || Math.abs(year - own.year) < Math.abs(best - own.year))) {
                best = year;
            }
        }
        return best;
    }

    int lettersWith(int style) {
        argument(style >= 0 && style <= 3);
        Shelf copy = now.copy();
        copy.style = style;
        return copy.lettered();
    }

    int bestStyle() {
        int[] rank = new int[4];
        int best = 0;
        for (int style = 0; style <= 3; style++) {
            Shelf copy = now.copy();
            copy.style = style;
            rank[style] = 1000 * copy.lettered() + 10 * copy.longest() + style;
            best = rank[style] < rank[best] ? style : best;
        }
        return best;
    }

    int weightiest() {
        int best = NONE;
        for (int i = now.books.size() - 1; i >= 0; i--) {
            best = best == NONE || ifRemoved(i) >= ifRemoved(best) ? i : best;
        }
        return best;
    }

    int runScript(int n, long script) {
        argument(n >= 1 && n <= 4);
        argument(script >= 0 && Long.toString(script).length() <= 4 * n);
        String digits = String.format("%0" + 4 * n + "d", script);
        Model copy = new Model();
        copy.now = now.copy();
        for (int c = 0; c < n; c++) {
            if (!copy.succeeds(digits.substring(4 * c, 4 * c + 4))) {
                return c;
            }
        }
        return NONE;
    }

    private boolean succeeds(String group) {
        int last = group.charAt(3) - '0';
        int two = Integer.parseInt(group.substring(2));
        int middle = Integer.parseInt(group.substring(1, 3));
        try {
            if (group.matches("10..")) {
                remove(two);
            } else if (group.matches("200.")) {
                setStyle(last);
            } else if (group.matches("300.")) {
                setOrder(last);
            } else if (group.matches("4...")) {
                setYear(middle, work(middle, 0) + last - 5);
            } else if (group.matches("50..")) {
                return work(two, 4) != 0;
            } else if (group.matches("60..")) {
                return about(3) >= two;
            } else if (group.matches("7000")) {
                print();
            } else if (group.matches("80..")) {
                return printed(0) <= two;
            } else {
                return group.matches("9...") && work(middle, 4) == last;
            }
            return true;
        } catch (RuntimeException e) {
            return false;
        }
    }

    int simulate(long seed, int m) {
        argument(m >= 1 && m <= 99);
        Shelf copy = now.copy();
        long x = seed;
        for (int round = 0; round < m; round++) {
            x = x * 6364136223846793005L + 1442695040888963407L;
            int r = (int) (x >>> 33);
            int works = copy.books.size();
            if (r % 4 == 0 && works > 0) {
                copy.remove(r / 4 % works);
            } else if (r % 4 == 1 && works > 0) {
                copy.books.get(r / 4 % works).year = 1990 + r / 64 % 4;
            } else if (r % 4 > 1 && works < 16) {
                copy.add("abc".charAt(r / 4 % 3) + ":" + (1990 + r / 16 % 3) + ":" + "abc".charAt(r / 64 % 3));
            }
        }
        return 100 * copy.books.size() + copy.lettered();
    }

    int save(int slot) {
        slot(slot);
        slots[slot] = now.copy();
        return now.books.size();
    }

    int restore(int slot) {
        slot(slot);
        state(slots[slot] != null);
        now = slots[slot].copy();
        remembered.clear();
        return now.books.size();
    }

    /** What a test needs to ask for keys that are there. */
    List<String> keysToAskFor() {
        List<String> keys = now.keys();
        keys.addAll(now.printed.keySet());
        return keys;
    }

    int works() {
        return now.books.size();
    }

    private void remember() {
        remembered.add(now.copy());
        if (remembered.size() > 14) {
            remembered.remove(0);
        }
    }

    private static int differing(List<String> before, List<String> after) {
        int differing = 0;
        for (int i = 0; i < after.size(); i++) {
            differing += before.get(i).equals(after.get(i)) ? 0 : 1;
        }
        return differing;
    }

    private void index(int i) {
        if (i < 0 || i >= now.books.size()) {
            throw new IndexOutOfBoundsException();
        }
    }

    private static void slot(int slot) {
        if (slot < 0 || slot > 1) {
            throw new IndexOutOfBoundsException();
        }
    }

    private static void argument(boolean right) {
        if (!right) {
            throw new IllegalArgumentException();
        }
    }

    private static void state(boolean right) {
        if (!right) {
            throw new IllegalStateException();
        }
    }
}
