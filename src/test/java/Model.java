import java.util.ArrayList;
import java.util.Iterator;
import java.util.List;
import java.util.TreeMap;

/** The mill of the model, call by call as the document tells them, with words as texts. */
final class Model {
    private static final String CLASSES = "012345";

    String typed = "";
    final List<Net> machines = new ArrayList<>();
    private final List<String> lessons = new ArrayList<>();

    // ---- what must hold

    private Net machine(int number) {
        if (number < 0 || number >= machines.size()) {
            throw new IndexOutOfBoundsException();
        }
        return machines.get(number);
    }

    private static void place(int place) {
        if (place < 0) {
            throw new IndexOutOfBoundsException();
        }
    }

    private static void between(int least, int number, int most) {
        if (number < least || number > most) {
            throw new IllegalArgumentException();
        }
    }

    private static void plain(Net machine) {
        if (!machine.isPlain()) {
            throw new Net.Impossible();
        }
    }

    private static void rulePossible(int f, int t, int l, int r) {
        between(0, f, 7);
        between(0, t, 8);
        between(-1, l, 7);
        between(-1, r, 7);
    }

    private int keep(Net machine) {
        if (machines.size() == 24) {
            throw new Net.Impossible();
        }
        machines.add(machine);
        return machines.size() - 1;
    }

    private static int letter(String word, int place) {
        if (word == null) {
            return -1;
        }
        return place < word.length() ? word.charAt(place) - '0' : 8;
    }

    // ---- the calls

    int type(int letter) {
        between(0, letter, 7);
        if (typed.length() == 8) {
            throw new Net.Impossible();
        }
        typed += letter;
        return typed.length();
    }

    int clear() {
        int had = typed.length();
        typed = "";
        return had;
    }

    int pair(int upper, int lower, int cost) {
        between(0, upper, 8);
        between(0, lower, 8);
        between(0, cost, 100);
        Net made = new Net(2, 0);
        made.arc(0, upper, lower, cost, 1);
        made.ends.add(1);
        return keep(made.trimmed());
    }

    int word() {
        Net made = new Net(typed.length() + 1, 0);
        for (int at = 0; at < typed.length(); at++) {
            made.arc(at, letter(typed, at), letter(typed, at), 0, at + 1);
        }
        made.ends.add(typed.length());
        return keep(made.trimmed());
    }

    int any() {
        Net made = new Net(2, 0);
        for (int letter = 0; letter < 8; letter++) {
            made.arc(0, letter, letter, 0, 1);
        }
        made.ends.add(1);
        return keep(made.trimmed());
    }

    int join(int first, int second) {
        Net one = machine(first);
        return keep(Net.joined(one, machine(second)));
    }

    int unite(int first, int second) {
        Net one = machine(first);
        return keep(Net.united(one, machine(second)));
    }

    int repeat(int machine) {
        return keep(machine(machine).repeated());
    }

    int turn(int machine) {
        return keep(machine(machine).turned());
    }

    int compose(int first, int second) {
        Net one = machine(first);
        return keep(Net.composed(one, machine(second)));
    }

    int side(int machine, boolean isUpper) {
        return keep(machine(machine).side(isUpper));
    }

    int least(int machine) {
        Net one = machine(machine);
        plain(one);
        return keep(Net.least(one, null, Net.Wanted.FIRST));
    }

    int meet(int first, int second, boolean isMeet) {
        Net one = machine(first);
        Net other = machine(second);
        plain(one);
        plain(other);
        return keep(Net.least(one, other, isMeet ? Net.Wanted.BOTH : Net.Wanted.FIRST_ALONE));
    }

    int rule(int f, int t, int l, int r, boolean isFree) {
        rulePossible(f, t, l, r);
        return keep(Net.ruled(f, t, l, r, isFree));
    }

    int size(int machine) {
        return 1000 * machine(machine).states + machine(machine).arcs.size();
    }

    boolean isEnd(int machine, int state) {
        if (state < 0 || state >= machine(machine).states) {
            throw new IndexOutOfBoundsException();
        }
        return machine(machine).ends.contains(state);
    }

    int arc(int machine, int arc, int what) {
        if (arc < 0 || arc >= machine(machine).arcs.size()) {
            throw new IndexOutOfBoundsException();
        }
        between(0, what, 4);
        Net.Arc found = machine(machine).arcs.get(arc);
        int[] parts = {found.from(), found.upper(), found.lower(), found.cost(), found.to()};
        return parts[what];
    }

    boolean isPlain(int machine) {
        return machine(machine).isPlain();
    }

    int answer(int machine, boolean isUp, int answer, int place) {
        Net used = machine(machine);
        place(place);
        between(0, answer, 19);
        Iterator<String> words = used.related(typed, isUp).keySet().iterator();
        String word = words.hasNext() ? words.next() : null;
        for (int at = 0; at < answer; at++) {
            word = words.hasNext() ? words.next() : null;
        }
        return letter(word, place);
    }

    int answers(int machine, boolean isUp) {
        return Math.min(20, machine(machine).related(typed, isUp).size());
    }

    int cost(int machine, boolean isUp) {
        return machine(machine).related(typed, isUp).values().stream().min(Integer::compare).orElse(-1);
    }

    int best(int machine, boolean isUp, int place) {
        TreeMap<String, Integer> words = machine(machine).related(typed, isUp);
        place(place);
        String best = null;
        for (String word : words.keySet()) {
            if (best == null || words.get(word) < words.get(best)) {
                best = word;
            }
        }
        return letter(best, place);
    }

    int changes(int machine) {
        String word = machine(machine).mended(typed);
        return word == null ? -1 : Net.distance(word, typed);
    }

    int mended(int machine, int place) {
        Net used = machine(machine);
        place(place);
        return letter(used.mended(typed), place);
    }

    int apart(int first, int second, int place) {
        Net one = machine(first);
        Net other = machine(second);
        place(place);
        plain(one);
        plain(other);
        return letter(Net.apart(one, other), place);
    }

    int ruled(int f, int t, int l, int r, int place) {
        place(place);
        rulePossible(f, t, l, r);
        StringBuilder made = new StringBuilder();
        for (int at = 0; at < typed.length(); at++) {
            String ahead = at == 0 ? "none" : typed.substring(at - 1, at);
            String behind = at == typed.length() - 1 ? "none" : typed.substring(at + 1, at + 2);
            boolean isRewritten = typed.charAt(at) == '0' + f && (l == -1 || ahead.equals("" + l))
                    && (r == -1 || behind.equals("" + r));
            made.append(isRewritten ? t : typed.charAt(at) - '0');
        }
        return letter(made.toString().replace("8", ""), place);
    }

    int learn(int kind) {
        between(0, kind, 5);
        if (lessons.size() == 30) {
            throw new Net.Impossible();
        }
        lessons.add(typed + ":" + kind);
        return lessons.size();
    }

    int guess() {
        for (int from = 0; from < typed.length(); from++) {
            String ending = typed.substring(from);
            int[] votes = new int[6];
            int most = 0;
            for (String lesson : lessons) {
                String[] parts = lesson.split(":");
                if (parts[0].endsWith(ending)) {
                    int kind = CLASSES.indexOf(parts[1]);
                    votes[kind]++;
                    most = Math.max(most, votes[kind]);
                }
            }
            for (int kind = 0; kind < 6 && most > 0; kind++) {
                if (votes[kind] == most) {
                    return 100 * ending.length() + 10 * kind + Math.min(9, most);
                }
            }
        }
        return -1;
    }
}
