/** Keys by which works are cited: made of authors and years by four styles; README.md tells more. */
public final class CitationKeys {
    public static final int NONE = -9;
    public static final int GONE = -2;

    private static final int MOST_WORKS = 16;
    private static final int MOST_AUTHORS = 4;
    private static final int MOST_LETTERS = 8;
    private static final int MOST_CHARACTERS = 100;
    private static final int MOST_REMEMBERED = 14;
    private static final int MOST_COMMANDS = 4;
    private static final int MOST_ROUNDS = 99;
    private static final int FIRST_YEAR = 1000;
    private static final int LAST_YEAR = 2999;
    private static final int STYLES = 4;
    private static final int ORDERS = 2;
    private static final int SLOTS = 2;

    private final Text text;
    private final State now;
    // What would be is tried out here, so that the present state stays as it is.
    private final State trial;
    private final Work draft;
    private final History history;
    private final State[] slots;
    private final boolean[] saved;

    public CitationKeys() {
        text = new Text();
        now = new State();
        trial = new State();
        draft = new Work();
        history = new History();
        slots = new State[SLOTS];
        for (int s = 0; s < SLOTS; s++) {
            slots[s] = new State();
        }
        saved = new boolean[SLOTS];
    }

    // ---- text

    public int append(int c) throws IllegalArgumentException, IllegalStateException {
        if (c < 0 || c > 255) {
            throw new IllegalArgumentException("a character code is 0 to 255");
        }
        if (text.length >= MOST_CHARACTERS) {
            throw new IllegalStateException("the text is full");
        }
        text.put((char) c);
        return text.length;
    }

    public int clearText() {
        int previous = text.length;
        text.length = 0;
        return previous;
    }

    public int errorPosition() {
        return text.read();
    }

    public int load() throws IllegalStateException {
        if (text.read() != NONE) {
            throw new IllegalStateException("the text is not a list");
        }
        now.empty();
        for (int t = 0; t < text.told; t++) {
            now.place(text.works[t]);
        }
        now.rekey();
        history.forget();
        for (int s = 0; s < SLOTS; s++) {
            saved[s] = false;
        }
        return now.count;
    }

    // ---- what there is

    public int about(int what) throws IllegalArgumentException {
        switch (what) {
            case 0: return now.count;
            case 1: return now.style;
            case 2: return now.order;
            case 3: return now.lettered();
            case 4: return now.differentStems();
            case 5: return now.longestKey();
            case 6: return now.printedCount;
            case 7: return now.printedOfNone();
            default: throw new IllegalArgumentException("there is no such number");
        }
    }

    public int work(int i, int what) throws IndexOutOfBoundsException, IllegalArgumentException {
        needWork(i);
        switch (what) {
            case 0: return now.works[i].year;
            case 1: return now.works[i].authorCount;
            case 2: return Name.length(now.works[i].title);
            case 3: return Key.length(now.keys[i]);
            case 4: return Key.letterOf(now.keys[i]);
            case 5: return now.placeOf(i);
            case 6: return now.sharing(i);
            default: throw new IllegalArgumentException("there is no such number of a work");
        }
    }

    public int letter(int i, int a, int k) throws IndexOutOfBoundsException, IllegalArgumentException {
        needWork(i);
        Work told = now.works[i];
        if (a < 0 || a > told.authorCount) {
            throw new IllegalArgumentException("there is no such author");
        }
        if (k < 0) {
            throw new IllegalArgumentException("letters are numbered from 0");
        }
        return Name.codeAt(told.nameAt(a), k);
    }

    public int key(int i, int k) throws IndexOutOfBoundsException, IllegalArgumentException {
        needWork(i);
        if (k < 0) {
            throw new IllegalArgumentException("characters are numbered from 0");
        }
        return Key.codeAt(now.keys[i], k);
    }

    public int at(int place) throws IllegalArgumentException {
        if (place < 0) {
            throw new IllegalArgumentException("places are numbered from 0");
        }
        for (int i = 0; i < now.count; i++) {
            if (now.placeOf(i) == place) {
                return i;
            }
        }
        return NONE;
    }

    public int meaning() {
        for (int i = 0; i < now.count; i++) {
            if (text.spells(now.keys[i])) {
                return i;
            }
        }
        return NONE;
    }

    public int printedMeaning() {
        for (int p = 0; p < now.printedCount; p++) {
            if (text.spells(now.printedKeys[p])) {
                return now.printedOwners[p];
            }
        }
        return NONE;
    }

    public int printed(int what) throws IllegalArgumentException {
        switch (what) {
            case 0: return now.printedOfAnother();
            case 1: return now.printedWithoutMeaning();
            case 2: return now.printedStillRight();
            default: throw new IllegalArgumentException("there is no such count");
        }
    }

    // ---- actions

    public int add() throws IllegalStateException {
        if (!tellsOneWork()) {
            throw new IllegalStateException("the text is not a list of just one work");
        }
        if (now.count >= MOST_WORKS) {
            throw new IllegalStateException("there are 16 works");
        }
        history.remember(now);
        now.place(text.works[0]);
        now.rekey();
        return now.count - 1;
    }

    public int change(int i) throws IndexOutOfBoundsException, IllegalStateException {
        needWork(i);
        if (!tellsOneWork()) {
            throw new IllegalStateException("the text is not a list of just one work");
        }
        history.remember(now);
        now.works[i].copyFrom(text.works[0]);
        return now.rekey();
    }

    public int setYear(int i, int year) throws IndexOutOfBoundsException, IllegalArgumentException {
        needWork(i);
        if (!isYear(year)) {
            throw new IllegalArgumentException("a year is 1000 to 2999");
        }
        history.remember(now);
        now.works[i].year = year;
        return now.rekey();
    }

    public int remove(int i) throws IndexOutOfBoundsException {
        needWork(i);
        history.remember(now);
        now.takeOut(i);
        return now.rekey();
    }

    public int setStyle(int style) throws IllegalArgumentException {
        needStyle(style);
        history.remember(now);
        int previous = now.style;
        now.style = style;
        now.rekey();
        return previous;
    }

    public int setOrder(int order) throws IllegalArgumentException {
        if (order < 0 || order >= ORDERS) {
            throw new IllegalArgumentException("an order is 0 or 1");
        }
        history.remember(now);
        now.order = order;
        return now.rekey();
    }

    public int print() {
        history.remember(now);
        now.printKeys();
        return now.printedCount;
    }

    public int undo() throws IllegalStateException {
        if (history.kept == 0) {
            throw new IllegalStateException("no state is remembered");
        }
        history.takeBack(now);
        return history.kept;
    }

    // ---- what would be

    public int ifRemoved(int i) throws IndexOutOfBoundsException {
        needWork(i);
        return keysHangingOn(i);
    }

    public int freeYear(int i) throws IndexOutOfBoundsException {
        needWork(i);
        int own = now.works[i].year;
        for (int d = 0; d <= LAST_YEAR - FIRST_YEAR; d++) {
            if (isYear(own - d) && now.isFree(i, own - d)) {
                return own - d;
            }
            if (isYear(own + d) && now.isFree(i, own + d)) {
                return own + d;
            }
        }
        return NONE;
    }

    public int lettersWith(int style) throws IllegalArgumentException {
        needStyle(style);
        tryStyle(style);
        return trial.lettered();
    }

    public int bestStyle() {
        int best = 0;
        int fewest = 0;
        int shortest = 0;
        for (int s = 0; s < STYLES; s++) {
            tryStyle(s);
            int letters = trial.lettered();
            int longest = trial.longestKey();
            if (s == 0 || letters < fewest || (letters == fewest && longest < shortest)) {
                best = s;
                fewest = letters;
                shortest = longest;
            }
        }
        return best;
    }

    public int weightiest() {
        int found = NONE;
        int most = 0;
        for (int i = 0; i < now.count; i++) {
            int hanging = keysHangingOn(i);
            if (found == NONE || hanging > most) {
                found = i;
                most = hanging;
            }
        }
        return found;
    }

    // ---- scripts, simulations

    public int runScript(int n, long script) throws IllegalArgumentException {
        if (n < 1 || n > MOST_COMMANDS) {
            throw new IllegalArgumentException("a script has 1 to 4 commands");
        }
        long unit = 1;
        for (int c = 0; c < n; c++) {
            unit *= 10000;
        }
        if (script < 0 || script >= unit) {
            throw new IllegalArgumentException("a script has at most four digits a command");
        }
        trial.copyFrom(now);
        for (int c = 0; c < n; c++) {
            if (!succeeds(trial, commandAt(script, n - 1 - c))) {
                return c;
            }
            trial.rekey();
        }
        return NONE;
    }

    public int simulate(long seed, int m) throws IllegalArgumentException {
        if (m < 1 || m > MOST_ROUNDS) {
            throw new IllegalArgumentException("there are 1 to 99 rounds");
        }
        trial.copyFrom(now);
        long x = seed;
        for (int round = 0; round < m; round++) {
            x = x * 6364136223846793005L + 1442695040888963407L;
            playRound(trial, (int) (x >>> 33));
        }
        trial.rekey();
        return 100 * trial.count + trial.lettered();
    }

    // ---- save slots

    public int save(int slot) throws IndexOutOfBoundsException {
        needSlot(slot);
        slots[slot].copyFrom(now);
        saved[slot] = true;
        return now.count;
    }

    public int restore(int slot) throws IndexOutOfBoundsException, IllegalStateException {
        needSlot(slot);
        if (!saved[slot]) {
            throw new IllegalStateException("nothing has been saved in this slot");
        }
        now.copyFrom(slots[slot]);
        history.forget();
        return now.count;
    }

    // ---- what several calls need

    private void needWork(int i) throws IndexOutOfBoundsException {
        if (!now.has(i)) {
            throw new IndexOutOfBoundsException("there is no such work");
        }
    }

    private static void needStyle(int style) throws IllegalArgumentException {
        if (!isStyle(style)) {
            throw new IllegalArgumentException("a style is 0 to 3");
        }
    }

    private static void needSlot(int slot) throws IndexOutOfBoundsException {
        if (slot < 0 || slot >= SLOTS) {
            throw new IndexOutOfBoundsException("a save slot is 0 or 1");
        }
    }

    private static boolean isYear(int year) {
        return year >= FIRST_YEAR && year <= LAST_YEAR;
    }

    private static boolean isStyle(int style) {
        return style >= 0 && style < STYLES;
    }

    private boolean tellsOneWork() {
        return text.read() == NONE && text.told == 1;
    }

    private int keysHangingOn(int i) {
        trial.copyFrom(now);
        trial.takeOut(i);
        return trial.rekey();
    }

    private void tryStyle(int style) {
        trial.copyFrom(now);
        trial.style = style;
        trial.rekey();
    }

    private static int commandAt(long script, int groupsBehind) {
        long rest = script;
        for (int g = 0; g < groupsBehind; g++) {
            rest /= 10000;
        }
        return (int) (rest % 10000);
    }

    // Leaves the keys as they were: runScript makes them anew behind each command.
    private static boolean succeeds(State state, int command) {
        int rest = command % 1000;
        switch (command / 1000) {
            case 1: return removes(state, rest);
            case 2: return setsStyle(state, rest);
            case 3: return setsOrder(state, rest);
            case 4: return movesYear(state, rest / 10, rest % 10 - 5);
            case 5: return state.has(rest) && Key.letterOf(state.keys[rest]) > 0;
            case 6: return rest < 100 && state.lettered() >= rest;
            case 7: return prints(state, rest);
            case 8: return rest < 100 && state.printedOfAnother() <= rest;
            case 9: return state.has(rest / 10) && Key.letterOf(state.keys[rest / 10]) == rest % 10;
            default: return false;
        }
    }

    private static boolean removes(State state, int i) {
        if (!state.has(i)) {
            return false;
        }
        state.takeOut(i);
        return true;
    }

    private static boolean setsStyle(State state, int style) {
        if (!isStyle(style)) {
            return false;
        }
        state.style = style;
        return true;
    }

    private static boolean setsOrder(State state, int order) {
        if (order < 0 || order >= ORDERS) {
            return false;
        }
        state.order = order;
        return true;
    }

    private static boolean movesYear(State state, int i, int by) {
        if (!state.has(i) || !isYear(state.works[i].year + by)) {
            return false;
        }
        state.works[i].year += by;
        return true;
    }

    private static boolean prints(State state, int rest) {
        if (rest != 0) {
            return false;
        }
        state.printKeys();
        return true;
    }

    // Leaves the keys as they were: only those at the end of the simulation are asked for.
    private void playRound(State state, int r) {
        if (r % 4 > 1) {
            draft.empty();
            draft.authorCount = 1;
            draft.authors[0] = Name.with(0, 0, 1 + r / 4 % 3);
            draft.year = 1990 + r / 16 % 3;
            draft.title = Name.with(0, 0, 1 + r / 64 % 3);
            state.place(draft);
        } else if (state.count > 0) {
            int i = r / 4 % state.count;
            if (r % 4 == 0) {
                state.takeOut(i);
            } else if (state.has(i)) {
                state.works[i].year = 1990 + r / 64 % 4;
            }
        }
    }

    /**
     * A name as one number: five bits a letter (1 for a), the first letter highest, zeros behind the last.
     * So numbers are in the order of names, and no name at all is before every name.
     */
    private static final class Name {
        private static final int BITS = 5;
        private static final int MASK = 31;

        static int numberAt(long name, int k) {
            if (k < 0 || k >= MOST_LETTERS) {
                return 0;
            }
            return (int) (name >> BITS * (MOST_LETTERS - 1 - k)) & MASK;
        }

        static int codeAt(long name, int k) {
            int number = numberAt(name, k);
            return number == 0 ? NONE : 'a' + number - 1;
        }

        static int length(long name) {
            int length = 0;
            for (int k = 0; k < MOST_LETTERS; k++) {
                if (numberAt(name, k) != 0) {
                    length++;
                }
            }
            return length;
        }

        /** The name with the letter k, which it has not yet. */
        static long with(long name, int k, int number) {
            if (k < 0 || k >= MOST_LETTERS) {
                return name;
            }
            return name | (long) number << BITS * (MOST_LETTERS - 1 - k);
        }
    }

    /**
     * A key as one number, the same for two keys only if they are the same text, whatever their styles:
     * from the highest bits a head (as a name), whether + follows, whether the year has four digits,
     * these digits' number, and which letter it has. A stem is a key with the letter 0.
     */
    private static final class Key {
        private static final int LETTER_MASK = 31;
        private static final int NUMBER_SHIFT = 5;
        private static final int NUMBER_MASK = 4095;
        private static final int FOUR_SHIFT = 17;
        private static final int PLUS_SHIFT = 18;
        private static final int HEAD_SHIFT = 19;

        static long withTwoDigits(long head, boolean plus, int year) {
            long sign = plus ? 1L << PLUS_SHIFT : 0L;
            return head << HEAD_SHIFT | sign | (long) (year % 100) << NUMBER_SHIFT;
        }

        static long withFourDigits(long head, int year) {
            return head << HEAD_SHIFT | 1L << FOUR_SHIFT | (long) year << NUMBER_SHIFT;
        }

        static int letterOf(long key) {
            return (int) key & LETTER_MASK;
        }

        private static int signs(long key) {
            return (int) (key >> PLUS_SHIFT) & 1;
        }

        private static int digits(long key) {
            return ((int) (key >> FOUR_SHIFT) & 1) == 0 ? 2 : 4;
        }

        static int length(long key) {
            int letters = letterOf(key) > 0 ? 1 : 0;
            return Name.length(key >> HEAD_SHIFT) + signs(key) + digits(key) + letters;
        }

        static int codeAt(long key, int k) {
            int signPlace = Name.length(key >> HEAD_SHIFT);
            int digitPlace = signPlace + signs(key);
            int letterPlace = digitPlace + digits(key);
            if (k < signPlace) {
                return Name.codeAt(key >> HEAD_SHIFT, k);
            }
            if (k < digitPlace) {
                return '+';
            }
            if (k < letterPlace) {
                return digitFromEnd(key, letterPlace - 1 - k);
            }
            return k == letterPlace && letterOf(key) > 0 ? 'a' + letterOf(key) - 1 : NONE;
        }

        private static int digitFromEnd(long key, int place) {
            int number = (int) (key >> NUMBER_SHIFT) & NUMBER_MASK;
            for (int p = 0; p < place; p++) {
                number /= 10;
            }
            return '0' + number % 10;
        }
    }

    private static final class Work {
        final long[] authors;
        int authorCount;
        int year;
        long title;

        Work() {
            authors = new long[MOST_AUTHORS];
        }

        void empty() {
            for (int a = 0; a < MOST_AUTHORS; a++) {
                authors[a] = 0;
            }
            authorCount = 0;
            year = 0;
            title = 0;
        }

        void copyFrom(Work other) {
            for (int a = 0; a < MOST_AUTHORS; a++) {
                authors[a] = other.authors[a];
            }
            authorCount = other.authorCount;
            year = other.year;
            title = other.title;
        }

        long nameAt(int a) {
            return a >= 0 && a < authorCount && a < MOST_AUTHORS ? authors[a] : title;
        }

        // Authors that are not there are 0, so a row that begins another one is before it.
        int compareAuthors(Work other) {
            for (int a = 0; a < MOST_AUTHORS; a++) {
                int compared = Long.compare(authors[a], other.authors[a]);
                if (compared != 0) {
                    return compared;
                }
            }
            return 0;
        }

        long stem(int style, int withYear) {
            switch (style) {
                case 0: return Key.withTwoDigits(firstThreeLetters(), false, withYear);
                case 1: return Key.withFourDigits(initials(), withYear);
                case 2: return Key.withTwoDigits(authors[0], authorCount > 1, withYear);
                default: return Key.withFourDigits(authorAndTitle(), withYear);
            }
        }

        private long firstThreeLetters() {
            long head = 0;
            for (int k = 0; k < 3; k++) {
                head = Name.with(head, k, Name.numberAt(authors[0], k));
            }
            return head;
        }

        private long initials() {
            long head = 0;
            for (int a = 0; a < MOST_AUTHORS; a++) {
                head = Name.with(head, a, Name.numberAt(authors[a], 0));
            }
            return head;
        }

        private long authorAndTitle() {
            long head = Name.with(0, 0, Name.numberAt(authors[0], 0));
            return Name.with(head, 1, Name.numberAt(title, 0));
        }
    }

    /** Works, style, order and printed list; all that undo takes back and save stores. */
    private static final class State {
        final Work[] works;
        int count;
        int style;
        int order;
        // After something has changed, keys holds the old ones until rekey makes and counts the new ones.
        final long[] stems;
        final long[] keys;
        final long[] printedKeys;
        final int[] printedOwners;
        int printedCount;

        State() {
            works = new Work[MOST_WORKS];
            for (int i = 0; i < MOST_WORKS; i++) {
                works[i] = new Work();
            }
            stems = new long[MOST_WORKS];
            keys = new long[MOST_WORKS];
            printedKeys = new long[MOST_WORKS];
            printedOwners = new int[MOST_WORKS];
        }

        void empty() {
            count = 0;
            style = 0;
            order = 0;
            printedCount = 0;
        }

        void copyFrom(State other) {
            count = other.count;
            style = other.style;
            order = other.order;
            printedCount = other.printedCount;
            for (int i = 0; i < count; i++) {
                works[i].copyFrom(other.works[i]);
                stems[i] = other.stems[i];
                keys[i] = other.keys[i];
            }
            for (int p = 0; p < printedCount; p++) {
                printedKeys[p] = other.printedKeys[p];
                printedOwners[p] = other.printedOwners[p];
            }
        }

        boolean has(int i) {
            return i >= 0 && i < count;
        }

        void place(Work told) {
            if (count >= MOST_WORKS) {
                return;
            }
            works[count].copyFrom(told);
            keys[count] = 0;
            count++;
        }

        void takeOut(int i) {
            if (!has(i)) {
                return;
            }
            Work gone = works[i];
            for (int j = i; j < count - 1; j++) {
                works[j] = works[j + 1];
                keys[j] = keys[j + 1];
            }
            count--;
            works[count] = gone;
            disown(i);
        }

        private void disown(int i) {
            for (int p = 0; p < printedCount; p++) {
                if (printedOwners[p] == i) {
                    printedOwners[p] = GONE;
                } else if (printedOwners[p] > i) {
                    printedOwners[p]--;
                }
            }
        }

        /** Makes the keys anew; returns how many works have another one than before. */
        int rekey() {
            for (int i = 0; i < count; i++) {
                stems[i] = works[i].stem(style, works[i].year);
            }
            int changed = 0;
            for (int i = 0; i < count; i++) {
                long fresh = stems[i] + letterDue(i);
                if (fresh != keys[i]) {
                    changed++;
                }
                keys[i] = fresh;
            }
            return changed;
        }

        private int letterDue(int i) {
            int sharing = 0;
            int before = 0;
            for (int j = 0; j < count; j++) {
                if (stems[j] == stems[i]) {
                    sharing++;
                    if (isBefore(j, i)) {
                        before++;
                    }
                }
            }
            return sharing > 1 ? before + 1 : 0;
        }

        private boolean isBefore(int i, int j) {
            int byAuthors = works[i].compareAuthors(works[j]);
            int byYear = Integer.compare(works[i].year, works[j].year);
            int first = order == 0 ? byAuthors : byYear;
            int second = order == 0 ? byYear : byAuthors;
            if (first != 0) {
                return first < 0;
            }
            if (second != 0) {
                return second < 0;
            }
            int byTitle = Long.compare(works[i].title, works[j].title);
            return byTitle != 0 ? byTitle < 0 : i < j;
        }

        int placeOf(int i) {
            int before = 0;
            for (int j = 0; j < count; j++) {
                if (isBefore(j, i)) {
                    before++;
                }
            }
            return before;
        }

        int sharing(int i) {
            int sharing = 0;
            for (int j = 0; j < count; j++) {
                if (stems[j] == stems[i]) {
                    sharing++;
                }
            }
            return sharing;
        }

        boolean isFree(int i, int year) {
            long stem = works[i].stem(style, year);
            for (int j = 0; j < count; j++) {
                if (j != i && stems[j] == stem) {
                    return false;
                }
            }
            return true;
        }

        int lettered() {
            int lettered = 0;
            for (int i = 0; i < count; i++) {
                if (Key.letterOf(keys[i]) > 0) {
                    lettered++;
                }
            }
            return lettered;
        }

        int differentStems() {
            int different = 0;
            for (int i = 0; i < count; i++) {
                // The first letter of a stem, or none, stands for the stem: each has just one.
                if (Key.letterOf(keys[i]) <= 1) {
                    different++;
                }
            }
            return different;
        }

        int longestKey() {
            int longest = 0;
            for (int i = 0; i < count; i++) {
                longest = Math.max(longest, Key.length(keys[i]));
            }
            return longest;
        }

        void printKeys() {
            for (int i = 0; i < count; i++) {
                printedKeys[i] = keys[i];
                printedOwners[i] = i;
            }
            printedCount = count;
        }

        private int holderOf(long key) {
            for (int i = 0; i < count; i++) {
                if (keys[i] == key) {
                    return i;
                }
            }
            return NONE;
        }

        int printedOfNone() {
            int found = 0;
            for (int p = 0; p < printedCount; p++) {
                if (printedOwners[p] == GONE) {
                    found++;
                }
            }
            return found;
        }

        int printedStillRight() {
            int found = 0;
            for (int p = 0; p < printedCount; p++) {
                if (holderOf(printedKeys[p]) == printedOwners[p]) {
                    found++;
                }
            }
            return found;
        }

        int printedWithoutMeaning() {
            int found = 0;
            for (int p = 0; p < printedCount; p++) {
                if (holderOf(printedKeys[p]) == NONE) {
                    found++;
                }
            }
            return found;
        }

        int printedOfAnother() {
            return printedCount - printedStillRight() - printedWithoutMeaning();
        }
    }

    /** The remembered states, the oldest of which gives way when there are too many. */
    private static final class History {
        private final State[] states;
        private int oldest;
        int kept;

        History() {
            states = new State[MOST_REMEMBERED];
            for (int s = 0; s < MOST_REMEMBERED; s++) {
                states[s] = new State();
            }
        }

        void forget() {
            kept = 0;
        }

        void remember(State state) {
            if (kept == MOST_REMEMBERED) {
                oldest = (oldest + 1) % MOST_REMEMBERED;
                kept--;
            }
            states[(oldest + kept) % MOST_REMEMBERED].copyFrom(state);
            kept++;
        }

        void takeBack(State state) {
            if (kept > 0) {
                kept--;
                state.copyFrom(states[(oldest + kept) % MOST_REMEMBERED]);
            }
        }
    }

    /** The text buffer, and the works that it tells once it has been read. */
    private static final class Text {
        private static final int AUTHORS = 0;
        private static final int YEAR = 1;
        private static final int TITLE = 2;

        private final char[] characters;
        int length;
        final Work[] works;
        int told;
        private int part;
        // How many letters or digits of the present name or year have been read.
        private int taken;

        Text() {
            characters = new char[MOST_CHARACTERS];
            works = new Work[MOST_WORKS];
            for (int i = 0; i < MOST_WORKS; i++) {
                works[i] = new Work();
            }
        }

        void put(char c) {
            if (length < MOST_CHARACTERS) {
                characters[length] = c;
                length++;
            }
        }

        boolean spells(long key) {
            if (length != Key.length(key)) {
                return false;
            }
            for (int k = 0; k < length; k++) {
                if (characters[k] != Key.codeAt(key, k)) {
                    return false;
                }
            }
            return true;
        }

        /** Reads the text as a list; returns the error position, NONE if it is one. */
        int read() {
            told = 0;
            beginWork();
            for (int p = 0; p < length; p++) {
                if (!takes(characters[p])) {
                    return p;
                }
            }
            return part == TITLE && taken > 0 ? NONE : length;
        }

        private boolean beginWork() {
            if (told >= MOST_WORKS) {
                return false;
            }
            works[told].empty();
            works[told].authorCount = 1;
            told++;
            begin(AUTHORS);
            return true;
        }

        private void begin(int nextPart) {
            part = nextPart;
            taken = 0;
        }

        private boolean takes(char c) {
            if (told < 1 || told > MOST_WORKS) {
                return false;
            }
            Work work = works[told - 1];
            switch (part) {
                case AUTHORS: return takesAuthors(work, c);
                case YEAR: return takesYear(work, c);
                default: return takesTitle(work, c);
            }
        }

        private boolean takesAuthors(Work work, char c) {
            int author = work.authorCount - 1;
            if (isLetter(c) && author >= 0 && author < MOST_AUTHORS) {
                work.authors[author] = Name.with(work.authors[author], taken, c - 'a' + 1);
                return countLetter();
            }
            if (c == ',' && taken > 0 && work.authorCount < MOST_AUTHORS) {
                work.authorCount++;
                begin(AUTHORS);
                return true;
            }
            if (c == ':' && taken > 0) {
                begin(YEAR);
                return true;
            }
            return false;
        }

        private boolean takesYear(Work work, char c) {
            if (taken == 4) {
                begin(TITLE);
                return c == ':';
            }
            boolean allowed = taken == 0 ? c == '1' || c == '2' : c >= '0' && c <= '9';
            if (allowed) {
                work.year = work.year * 10 + c - '0';
                taken++;
            }
            return allowed;
        }

        private boolean takesTitle(Work work, char c) {
            if (isLetter(c)) {
                work.title = Name.with(work.title, taken, c - 'a' + 1);
                return countLetter();
            }
            return c == ';' && taken > 0 && beginWork();
        }

        private boolean countLetter() {
            taken++;
            return taken <= MOST_LETTERS;
        }

        private static boolean isLetter(char c) {
            return c >= 'a' && c <= 'z';
        }
    }
}
