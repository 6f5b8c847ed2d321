import java.util.List;
import java.util.Random;

/** Runs of random calls, each answered by the class and by the model. The seeds are fixed. */
public final class ModelTests {
    private static final int RUNS = 2000;
    private static final int CALLS = 400;
    private static final String[] NAMES = {"a", "b", "ab", "abc", "abcd", "abce", "b", "smith", "abcdefgh", "zz"};
    private static final int[] YEARS = {1998, 1999, 1898, 2000, 1000, 1001, 2999, 2998, 1905, 2005};
    private static final int[] WRONG = {-1, -2, 16, 17, 99, 256, Integer.MIN_VALUE, Integer.MAX_VALUE};

    private final Checks checks = new Checks();
    private Random random;
    private Keys x;
    private Model model;
    private int calls;

    public static void main(String[] args) {
        ModelTests tests = new ModelTests();
        for (int run = 0; run < RUNS && tests.checks.allDue(); run++) {
            tests.checks.part("run " + run);
            tests.run(run);
        }
        tests.checks.end();
    }

    private void run(int seed) {
        random = new Random(seed);
        x = new Keys();
        model = new Model();
        calls = 0;
        if (random.nextInt(3) > 0) {
            write(works(5));
            both("load()", () -> x.load(), () -> model.load());
        }
        while (calls < CALLS) {
            step();
        }
    }

    private void both(String what, Checks.Call real, Checks.Call due) {
        calls++;
        checks.due("call " + calls + ", " + what, Checks.answer(real), Checks.answer(due));
    }

    private int pick(int... from) {
        return from[random.nextInt(from.length)];
    }

    private String name() {
        return NAMES[random.nextInt(random.nextBoolean() ? 3 : NAMES.length)];
    }

    private int year() {
        return random.nextInt(4) > 0 ? YEARS[random.nextInt(3)] : pick(YEARS);
    }

    private String oneWork() {
        StringBuilder work = new StringBuilder(name());
        for (int a = random.nextInt(6) - 2; a > 0; a--) {
            work.append(',').append(name());
        }
        return work.append(':').append(year()).append(':').append(name()).toString();
    }

    private String works(int most) {
        StringBuilder works = new StringBuilder(oneWork());
        for (int w = random.nextInt(most); w > 0; w--) {
            works.append(';').append(oneWork());
        }
        return works.substring(0, Math.min(100, works.length()));
    }

    private String spoilt(String text) {
        int p = random.nextInt(text.length());
        char other = ",:;019azA+ \u00e9".charAt(random.nextInt(12));
        String rest = random.nextBoolean() ? text.substring(p) : text.substring(p + 1);
        String spoilt = text.substring(0, p) + other + rest;
        return random.nextInt(4) == 0 ? text.substring(0, p) : spoilt.substring(0, Math.min(100, spoilt.length()));
    }

    private void write(String text) {
        both("clearText()", () -> x.clearText(), () -> model.clearText());
        for (char c : text.toCharArray()) {
            both("append(" + (int) c + ")", () -> x.append(c), () -> model.append(c));
        }
    }

    private int work() {
        boolean far = random.nextInt(30) == 0 || model.works() == 0;
        return far ? pick(pick(WRONG), model.works()) : random.nextInt(model.works());
    }

    private int number(int least, int most) {
        return random.nextInt(30) == 0 ? pick(pick(WRONG), least - 1, most + 1) : least + random.nextInt(most - least + 1);
    }

    private void step() {
        int kind = random.nextInt(100);
        if (kind < 12) {
            tell();
        } else if (kind < 45) {
            act();
        } else if (kind < 75) {
            look();
        } else if (kind < 95) {
            wonder();
        } else {
            keep();
        }
    }

    private void tell() {
        int kind = random.nextInt(20);
        if (kind < 10) {
            write(oneWork());
            both("add()", () -> x.add(), () -> model.add());
        } else if (kind < 13) {
            int i = work();
            write(oneWork());
            both("change(" + i + ")", () -> x.change(i), () -> model.change(i));
        } else if (kind < 14) {
            write(spoilt(works(3)));
            both("add()", () -> x.add(), () -> model.add());
        } else if (kind < 15) {
            int c = pick(pick(WRONG), 0, 255, 'a', ':', ',');
            both("append(" + c + ")", () -> x.append(c), () -> model.append(c));
        } else if (kind < 19) {
            List<String> keys = model.keysToAskFor();
            String key = keys.isEmpty() ? "" : keys.get(random.nextInt(keys.size()));
            write(random.nextInt(5) == 0 && !key.isEmpty() ? spoilt(key) : key);
            both("meaning()", () -> x.meaning(), () -> model.meaning());
            both("printedMeaning()", () -> x.printedMeaning(), () -> model.printedMeaning());
        } else if (random.nextInt(3) == 0) {
            write(random.nextInt(4) == 0 ? spoilt(works(8)) : works(8));
            both("load()", () -> x.load(), () -> model.load());
        }
        both("errorPosition()", () -> x.errorPosition(), () -> model.errorPosition());
    }

    private void act() {
        int i = work();
        switch (random.nextInt(16)) {
            case 0: case 1: case 2: case 3: {
                int year = random.nextInt(20) == 0 ? pick(999, 3000, 0, Integer.MIN_VALUE, Integer.MAX_VALUE) : year();
                both("setYear(" + i + ", " + year + ")", () -> x.setYear(i, year), () -> model.setYear(i, year));
                break;
            }
            case 4:
                both("remove(" + i + ")", () -> x.remove(i), () -> model.remove(i));
                break;
            case 5: case 6: case 7: {
                int style = number(0, 3);
                both("setStyle(" + style + ")", () -> x.setStyle(style), () -> model.setStyle(style));
                break;
            }
            case 8: case 9: {
                int order = number(0, 1);
                both("setOrder(" + order + ")", () -> x.setOrder(order), () -> model.setOrder(order));
                break;
            }
            case 10: case 11:
                both("print()", () -> x.print(), () -> model.print());
                break;
            case 12:
                for (int n = random.nextInt(17); n >= 0; n -= 1 + random.nextInt(4)) {
                    both("undo()", () -> x.undo(), () -> model.undo());
                }
                break;
            case 13:
                both("change(" + i + ")", () -> x.change(i), () -> model.change(i));
                break;
            default:
                both("add()", () -> x.add(), () -> model.add());
        }
    }

    private void look() {
        int i = work();
        switch (random.nextInt(8)) {
            case 0: case 1: {
                int what = number(0, 7);
                both("about(" + what + ")", () -> x.about(what), () -> model.about(what));
                break;
            }
            case 2: case 3: {
                int what = number(0, 6);
                both("work(" + i + ", " + what + ")", () -> x.work(i, what), () -> model.work(i, what));
                break;
            }
            case 4: {
                int a = number(0, 4);
                int k = number(0, 8);
                both("letter(" + i + ", " + a + ", " + k + ")", () -> x.letter(i, a, k), () -> model.letter(i, a, k));
                break;
            }
            case 5: {
                int k = number(0, 12);
                both("key(" + i + ", " + k + ")", () -> x.key(i, k), () -> model.key(i, k));
                break;
            }
            case 6: {
                int place = number(0, 15);
                both("at(" + place + ")", () -> x.at(place), () -> model.at(place));
                break;
            }
            default: {
                int what = number(0, 2);
                both("printed(" + what + ")", () -> x.printed(what), () -> model.printed(what));
            }
        }
    }

    private void wonder() {
        int i = work();
        switch (random.nextInt(12)) {
            case 0: case 1:
                both("ifRemoved(" + i + ")", () -> x.ifRemoved(i), () -> model.ifRemoved(i));
                break;
            case 2:
                both("freeYear(" + i + ")", () -> x.freeYear(i), () -> model.freeYear(i));
                break;
            case 3: {
                int style = number(0, 3);
                both("lettersWith(" + style + ")", () -> x.lettersWith(style), () -> model.lettersWith(style));
                break;
            }
            case 4:
                both("bestStyle()", () -> x.bestStyle(), () -> model.bestStyle());
                break;
            case 5:
                both("weightiest()", () -> x.weightiest(), () -> model.weightiest());
                break;
            case 6: {
                long seed = random.nextLong();
                int m = random.nextInt(10) == 0 ? pick(0, -1, 100, Integer.MIN_VALUE) : 1 + random.nextInt(99);
                both("simulate(" + seed + ", " + m + ")", () -> x.simulate(seed, m), () -> model.simulate(seed, m));
                break;
            }
            default:
                runScript();
        }
    }

    private void runScript() {
        int n = number(1, 4);
        long script = 0;
        int groups = random.nextInt(30) == 0 ? 5 - random.nextInt(4) : Math.max(1, Math.min(4, n));
        for (int g = 0; g < groups && g < 4; g++) {
            script = script * 10000 + command();
        }
        long told = random.nextInt(60) == 0 ? random.nextLong() : random.nextInt(60) == 0 ? -script : script;
        both("runScript(" + n + ", " + told + ")", () -> x.runScript(n, told), () -> model.runScript(n, told));
    }

    private int command() {
        int i = random.nextInt(8) == 0 ? random.nextInt(100) : random.nextInt(Math.max(1, model.works()));
        switch (random.nextInt(11)) {
            case 0: return 1000 + i;
            case 1: return 2000 + random.nextInt(4);
            case 2: return 3000 + random.nextInt(2);
            case 3: case 4: return 4000 + 10 * i + random.nextInt(10);
            case 5: return 5000 + i;
            case 6: return 6000 + random.nextInt(8);
            case 7: return 7000;
            case 8: return 8000 + random.nextInt(4);
            case 9: return 9000 + 10 * i + random.nextInt(4);
            default: return random.nextInt(3) == 0 ? random.nextInt(10000) : 7000;
        }
    }

    private void keep() {
        int slot = number(0, 1);
        if (random.nextBoolean()) {
            both("save(" + slot + ")", () -> x.save(slot), () -> model.save(slot));
        } else if (random.nextInt(3) == 0) {
            both("restore(" + slot + ")", () -> x.restore(slot), () -> model.restore(slot));
        }
    }
}
