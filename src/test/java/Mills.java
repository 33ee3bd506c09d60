/** What tests do with a mill again and again: typing a word, and reading machines and words as texts. */
final class Mills {
    private static final int MOST_READ = 400;

    private Mills() {
    }

    static AffixWorks typed(String word) {
        AffixWorks mill = new AffixWorks();
        retype(mill, word);
        return mill;
    }

    static void retype(AffixWorks mill, String word) {
        mill.clear();
        for (int at = 0; at < word.length(); at++) {
            mill.type(word.charAt(at) - '0');
        }
    }

    /** Makes the machine of a word; the word stays typed. */
    static int word(AffixWorks mill, String word) {
        retype(mill, word);
        return mill.word();
    }

    /** A machine as a text: its states, its ends, and its arcs as from:upper/lower$cost>to. */
    static String show(AffixWorks mill, int machine) {
        int size = mill.size(machine);
        int states = size / 1000;
        StringBuilder text = new StringBuilder().append(states).append(" [");
        for (int state = 0; state < states; state++) {
            if (mill.isEnd(machine, state)) {
                text.append(text.charAt(text.length() - 1) == '[' ? "" : " ").append(state);
            }
        }
        text.append(']');
        for (int arc = 0; arc < size % 1000; arc++) {
            text.append(' ').append(mill.arc(machine, arc, 0)).append(':')
                    .append(mill.arc(machine, arc, 1)).append('/')
                    .append(mill.arc(machine, arc, 2)).append('$')
                    .append(mill.arc(machine, arc, 3)).append('>')
                    .append(mill.arc(machine, arc, 4));
        }
        return text.toString();
    }

    /** All that can be seen of a mill without changing it: word, guess, and machines. */
    static String state(AffixWorks mill) {
        StringBuilder text = new StringBuilder("word ").append(typedWord(mill))
                .append(" guess ").append(mill.guess());
        for (int machine = 0; machine < count(mill); machine++) {
            text.append(" | ").append(show(mill, machine));
        }
        return text.toString();
    }

    /** The word that is typed, read by a rule that makes a letter what it is. */
    static String typedWord(AffixWorks mill) {
        return ruled(mill, 0, 0, AffixWorks.NONE, AffixWorks.NONE);
    }

    static int count(AffixWorks mill) {
        int count = 0;
        while (count <= 24 && Check.outcome(within(mill, count)).equals("1")) {
            count++;
        }
        return count;
    }

    private static Check.Call within(AffixWorks mill, int machine) {
        return () -> mill.size(machine) >= 1000 ? 1 : 0;
    }

    interface Letters {
        int at(int place);
    }

    /** Reads a word place by place; "none" if there is none. */
    static String read(Letters letters) {
        StringBuilder text = new StringBuilder();
        for (int place = 0; place < MOST_READ; place++) {
            int letter = letters.at(place);
            if (letter == AffixWorks.NONE) {
                return "none";
            }
            if (letter == AffixWorks.EMPTY) {
                return text.toString();
            }
            text.append(letter);
        }
        return "endless";
    }

    static String answer(AffixWorks mill, int machine, boolean isUp, int answer) {
        return read(place -> mill.answer(machine, isUp, answer, place));
    }

    /** All answers that can be asked for, one behind the other. */
    static String answers(AffixWorks mill, int machine, boolean isUp) {
        StringBuilder text = new StringBuilder();
        int count = mill.answers(machine, isUp);
        text.append(count).append(':');
        for (int answer = 0; answer < count; answer++) {
            text.append(' ').append(answer(mill, machine, isUp, answer));
        }
        return text.toString();
    }

    static String best(AffixWorks mill, int machine, boolean isUp) {
        return read(place -> mill.best(machine, isUp, place));
    }

    static String mended(AffixWorks mill, int machine) {
        return read(place -> mill.mended(machine, place));
    }

    static String apart(AffixWorks mill, int first, int second) {
        return read(place -> mill.apart(first, second, place));
    }

    static String ruled(AffixWorks mill, int f, int t, int l, int r) {
        return read(place -> mill.ruled(f, t, l, r, place));
    }
}
