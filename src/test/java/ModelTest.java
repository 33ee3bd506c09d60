import java.util.Random;

/** Runs of calls, drawn with fixed seeds, on a mill and on the model; all answers must be the same. */
public final class ModelTest {
    private static final int RUNS = 1500;
    private static final int CALLS = 300;

    private static final Check CHECK = new Check("ModelTest");

    private final Random random;
    private final AffixWorks mill = new AffixWorks();
    private final Model model = new Model();
    private final String name;
    private final int letters;
    private final int errors;
    private int skipped = 0;

    private ModelTest(int seed) {
        random = new Random(seed);
        name = "seed " + seed;
        int[] alphabets = {1, 2, 2, 3, 3, 5, 8};
        letters = alphabets[random.nextInt(alphabets.length)];
        errors = random.nextInt(4) == 0 ? 6 : 40;
    }

    public static void main(String[] args) {
        int from = args.length > 0 ? Integer.parseInt(args[0]) : 0;
        int count = args.length > 1 ? Integer.parseInt(args[1]) : RUNS;
        int skipped = 0;
        for (int seed = from; seed < from + count && CHECK.isClean(); seed++) {
            ModelTest test = new ModelTest(seed);
            test.run();
            skipped += test.skipped;
        }
        System.out.println("ModelTest: " + skipped + " calls were too slow for the model");
        CHECK.end();
    }

    private void run() {
        int calls = 0;
        while (calls < CALLS && CHECK.isClean()) {
            int kind = random.nextInt(100);
            calls++;
            if (kind < 22) {
                typing();
            } else if (kind < 36) {
                makingOfNothing();
            } else if (kind < 62) {
                makingOfMachines();
            } else if (kind < 70) {
                looking();
            } else if (kind < 94) {
                lookingUp();
            } else {
                guessing();
            }
        }
        for (int machine = 0; machine < model.machines.size(); machine++) {
            CHECK.same(name + ": machine " + machine, Mills.show(mill, machine),
                    model.machines.get(machine).show());
        }
        CHECK.due(name + ": clear at the end", model.typed.length(), mill::clear);
    }

    // ---- what is drawn

    private boolean isError() {
        return random.nextInt(errors) == 0;
    }

    /** A number from the least to the most, now and then one beside or far away. */
    private int number(int least, int most) {
        if (isError()) {
            int[] beside = {least - 1, most + 1, most + 2, Integer.MIN_VALUE, Integer.MAX_VALUE};
            return beside[random.nextInt(beside.length)];
        }
        return least + random.nextInt(Math.max(1, most - least + 1));
    }

    private int letter() {
        return isError() ? number(0, 7) : random.nextInt(letters);
    }

    private int letterOrEmpty() {
        return random.nextInt(4) == 0 ? number(8, 8) : letter();
    }

    private int letterOrAny() {
        return random.nextInt(2) == 0 ? number(-1, -1) : letter();
    }

    private int machine() {
        return number(0, model.machines.size() - 1);
    }

    private int plainMachine() {
        for (int at = 0; at < 20; at++) {
            int machine = machine();
            if (machine >= 0 && machine < model.machines.size() && model.machines.get(machine).isPlain()) {
                return machine;
            }
        }
        return machine();
    }

    private int place() {
        return isError() ? number(0, 40) : random.nextInt(model.typed.length() + 3);
    }

    // ---- what is compared

    /** The model tells nothing where it would be too slow. */
    private void same(String call, Check.Call got, Check.Call due) {
        String answer;
        try {
            answer = Long.toString(due.answer());
        } catch (Net.TooSlow e) {
            skipped++;
            return;
        } catch (Net.Impossible e) {
            answer = Check.STATE;
        } catch (RuntimeException e) {
            answer = e.getClass().getSimpleName();
        }
        CHECK.same(name + ": " + call, Check.outcome(got), answer);
    }

    private static int one(boolean isSo) {
        return isSo ? 1 : 0;
    }

    private void typing() {
        if (random.nextInt(6) == 0) {
            same("clear", mill::clear, model::clear);
        } else {
            int letter = letter();
            same("type " + letter, () -> mill.type(letter), () -> model.type(letter));
        }
    }

    private void makingOfNothing() {
        int kind = random.nextInt(10);
        if (kind < 3) {
            int upper = letterOrEmpty();
            int lower = random.nextInt(3) == 0 ? upper : letterOrEmpty();
            int cost = random.nextInt(3) == 0 ? 0 : number(0, random.nextInt(2) == 0 ? 3 : 100);
            same("pair " + upper + " " + lower + " " + cost, () -> mill.pair(upper, lower, cost),
                    () -> model.pair(upper, lower, cost));
        } else if (kind < 6) {
            same("word", mill::word, model::word);
        } else if (kind < 7) {
            same("any", mill::any, model::any);
        } else {
            int f = letter();
            int t = letterOrEmpty();
            int l = letterOrAny();
            int r = letterOrAny();
            boolean isFree = random.nextBoolean();
            same("rule " + f + " " + t + " " + l + " " + r + " " + isFree,
                    () -> mill.rule(f, t, l, r, isFree), () -> model.rule(f, t, l, r, isFree));
        }
    }

    private void makingOfMachines() {
        int one = machine();
        int other = machine();
        boolean isSo = random.nextBoolean();
        switch (random.nextInt(9)) {
            case 0 -> same("join " + one + " " + other, () -> mill.join(one, other),
                    () -> model.join(one, other));
            case 1, 2 -> same("unite " + one + " " + other, () -> mill.unite(one, other),
                    () -> model.unite(one, other));
            case 3 -> same("repeat " + one, () -> mill.repeat(one), () -> model.repeat(one));
            case 4 -> same("turn " + one, () -> mill.turn(one), () -> model.turn(one));
            case 5 -> same("compose " + one + " " + other, () -> mill.compose(one, other),
                    () -> model.compose(one, other));
            case 6 -> same("side " + one + " " + isSo, () -> mill.side(one, isSo),
                    () -> model.side(one, isSo));
            case 7 -> {
                int plain = plainMachine();
                same("least " + plain, () -> mill.least(plain), () -> model.least(plain));
            }
            default -> {
                int plain = plainMachine();
                int with = plainMachine();
                same("meet " + plain + " " + with + " " + isSo, () -> mill.meet(plain, with, isSo),
                        () -> model.meet(plain, with, isSo));
            }
        }
    }

    private void looking() {
        int machine = machine();
        int state = number(0, 8);
        int what = number(0, 4);
        switch (random.nextInt(4)) {
            case 0 -> same("size " + machine, () -> mill.size(machine), () -> model.size(machine));
            case 1 -> same("isEnd " + machine + " " + state, () -> one(mill.isEnd(machine, state)),
                    () -> one(model.isEnd(machine, state)));
            case 2 -> same("arc " + machine + " " + state + " " + what,
                    () -> mill.arc(machine, state, what), () -> model.arc(machine, state, what));
            default -> same("isPlain " + machine, () -> one(mill.isPlain(machine)),
                    () -> one(model.isPlain(machine)));
        }
    }

    private void lookingUp() {
        int machine = machine();
        boolean isUp = random.nextBoolean();
        int place = place();
        switch (random.nextInt(9)) {
            case 0, 1 -> {
                int answer = random.nextInt(3) == 0 ? number(0, 19) : random.nextInt(4);
                same("answer " + machine + " " + isUp + " " + answer + " " + place,
                        () -> mill.answer(machine, isUp, answer, place),
                        () -> model.answer(machine, isUp, answer, place));
            }
            case 2 -> same("answers " + machine + " " + isUp, () -> mill.answers(machine, isUp),
                    () -> model.answers(machine, isUp));
            case 3 -> same("cost " + machine + " " + isUp, () -> mill.cost(machine, isUp),
                    () -> model.cost(machine, isUp));
            case 4 -> same("best " + machine + " " + isUp + " " + place,
                    () -> mill.best(machine, isUp, place), () -> model.best(machine, isUp, place));
            case 5 -> same("changes " + machine, () -> mill.changes(machine),
                    () -> model.changes(machine));
            case 6 -> same("mended " + machine + " " + place, () -> mill.mended(machine, place),
                    () -> model.mended(machine, place));
            case 7 -> {
                int one = plainMachine();
                int other = plainMachine();
                same("apart " + one + " " + other + " " + place, () -> mill.apart(one, other, place),
                        () -> model.apart(one, other, place));
            }
            default -> ruling(place);
        }
    }

    private void ruling(int place) {
        int f = letter();
        int t = letterOrEmpty();
        int l = letterOrAny();
        int r = letterOrAny();
        same("ruled " + f + " " + t + " " + l + " " + r + " " + place,
                () -> mill.ruled(f, t, l, r, place), () -> model.ruled(f, t, l, r, place));
    }

    private void guessing() {
        int kind = number(0, 5);
        if (random.nextBoolean()) {
            same("learn " + kind, () -> mill.learn(kind), () -> model.learn(kind));
        } else {
            same("guess", mill::guess, model::guess);
        }
    }
}
