import java.util.HashMap;
import java.util.Map;
import java.util.TreeMap;

/**
 * What a machine is to relate, told by words alone: neither states nor arcs are known here. Words
 * are texts of the letters 0 to 7; what is related to a word comes with its least cost.
 */
abstract class Meaning {
    private static final int MOST_WORDS = 300;

    /** Thrown where so many words are related that it would take too long to tell them. */
    static final class TooMany extends RuntimeException {
        private static final long serialVersionUID = 1L;
    }

    private final Map<String, TreeMap<String, Integer>> known = new HashMap<>();

    /** The words that are related to a word: lower ones, or (looking up) upper ones. */
    final TreeMap<String, Integer> of(String word, boolean isUp) {
        String key = isUp + word;
        if (!known.containsKey(key)) {
            TreeMap<String, Integer> found = told(word, isUp);
            if (found.size() > MOST_WORDS) {
                throw new TooMany();
            }
            known.put(key, found);
        }
        return known.get(key);
    }

    protected abstract TreeMap<String, Integer> told(String word, boolean isUp);

    boolean hasUpper(String word) {
        return !of(word, false).isEmpty();
    }

    boolean relatesEmptyWord() {
        return !of("", false).isEmpty() || !of("", true).isEmpty();
    }

    private static void put(TreeMap<String, Integer> words, String word, int cost) {
        words.merge(word, cost, Math::min);
    }

    private static TreeMap<String, Integer> just(String word, boolean isSo) {
        TreeMap<String, Integer> words = new TreeMap<>();
        if (isSo) {
            words.put(word, 0);
        }
        return words;
    }

    // ---- what is made

    static Meaning pair(String upper, String lower, int cost) {
        return new Meaning() {
            @Override
            protected TreeMap<String, Integer> told(String word, boolean isUp) {
                TreeMap<String, Integer> words = new TreeMap<>();
                if (word.equals(isUp ? lower : upper)) {
                    words.put(isUp ? upper : lower, cost);
                }
                return words;
            }
        };
    }

    static Meaning any() {
        return new Meaning() {
            @Override
            protected TreeMap<String, Integer> told(String word, boolean isUp) {
                return just(word, word.length() == 1);
            }
        };
    }

    static Meaning join(Meaning first, Meaning second) {
        return new Meaning() {
            @Override
            protected TreeMap<String, Integer> told(String word, boolean isUp) {
                TreeMap<String, Integer> words = new TreeMap<>();
                for (int at = 0; at <= word.length(); at++) {
                    addRows(words, first.of(word.substring(0, at), isUp),
                            second.of(word.substring(at), isUp));
                }
                return words;
            }
        };
    }

    private static void addRows(TreeMap<String, Integer> words, TreeMap<String, Integer> ahead,
            TreeMap<String, Integer> behind) {
        for (String one : ahead.keySet()) {
            for (String other : behind.keySet()) {
                put(words, one + other, ahead.get(one) + behind.get(other));
            }
        }
    }

    static Meaning unite(Meaning first, Meaning second) {
        return new Meaning() {
            @Override
            protected TreeMap<String, Integer> told(String word, boolean isUp) {
                TreeMap<String, Integer> words = new TreeMap<>(first.of(word, isUp));
                second.of(word, isUp).forEach((other, cost) -> put(words, other, cost));
                return words;
            }
        };
    }

    /** Of what relates nothing to the empty word, nor it to anything: each time takes a letter. */
    static Meaning repeat(Meaning once) {
        return new Meaning() {
            @Override
            protected TreeMap<String, Integer> told(String word, boolean isUp) {
                TreeMap<String, Integer> words = just("", word.isEmpty());
                for (int at = 1; at <= word.length(); at++) {
                    TreeMap<String, Integer> ahead = once.of(word.substring(0, at), isUp);
                    if (!ahead.isEmpty()) {
                        addRows(words, ahead, of(word.substring(at), isUp));
                    }
                }
                return words;
            }
        };
    }

    static Meaning turn(Meaning turned) {
        return new Meaning() {
            @Override
            protected TreeMap<String, Integer> told(String word, boolean isUp) {
                return turned.of(word, !isUp);
            }
        };
    }

    static Meaning compose(Meaning first, Meaning second) {
        return new Meaning() {
            @Override
            protected TreeMap<String, Integer> told(String word, boolean isUp) {
                TreeMap<String, Integer> words = new TreeMap<>();
                TreeMap<String, Integer> between = (isUp ? second : first).of(word, isUp);
                for (String middle : between.keySet()) {
                    (isUp ? first : second).of(middle, isUp)
                            .forEach((last, cost) -> put(words, last, between.get(middle) + cost));
                }
                return words;
            }
        };
    }

    static Meaning side(Meaning whole, boolean isUpper) {
        return new Meaning() {
            @Override
            protected TreeMap<String, Integer> told(String word, boolean isUp) {
                return just(word, !whole.of(word, !isUpper).isEmpty());
            }
        };
    }

    static Meaning meet(Meaning first, Meaning second, boolean isMeet) {
        return new Meaning() {
            @Override
            protected TreeMap<String, Integer> told(String word, boolean isUp) {
                return just(word, first.hasUpper(word) && second.hasUpper(word) == isMeet);
            }
        };
    }

    // ---- rules

    /** Any letter is told as -1, the empty one as 8. */
    static Meaning rule(int f, int t, int l, int r, boolean isFree) {
        return new Meaning() {
            @Override
            protected TreeMap<String, Integer> told(String word, boolean isUp) {
                TreeMap<String, Integer> words = new TreeMap<>();
                if (isUp) {
                    addUpper(words, word, "", 0, false);
                } else {
                    addLower(words, word, "", 0);
                }
                return words;
            }

            private boolean isRewritten(String upper, int at) {
                boolean isAhead = l == -1 || at > 0 && upper.charAt(at - 1) - '0' == l;
                boolean isBehind = r == -1 || at + 1 < upper.length() && upper.charAt(at + 1) - '0' == r;
                return upper.charAt(at) - '0' == f && isAhead && isBehind;
            }

            private void addLower(TreeMap<String, Integer> words, String upper, String said, int at) {
                if (at == upper.length()) {
                    words.put(said, 0);
                    return;
                }
                if (isRewritten(upper, at)) {
                    addLower(words, upper, said + (t == 8 ? "" : "" + t), at + 1);
                }
                if (isFree || !isRewritten(upper, at)) {
                    addLower(words, upper, said + upper.charAt(at), at + 1);
                }
            }

            /** Of two letters that are left out, one behind the other, neither has l and r beside. */
            private void addUpper(TreeMap<String, Integer> words, String lower, String upper, int at,
                    boolean isLeftOut) {
                if (at == lower.length()) {
                    addIfRelated(words, upper, lower);
                } else {
                    addUpper(words, lower, upper + lower.charAt(at), at + 1, false);
                    if (lower.charAt(at) - '0' == t && t != f) {
                        addUpper(words, lower, upper + f, at + 1, false);
                    }
                }
                if (t == 8 && !isLeftOut) {
                    addUpper(words, lower, upper + f, at, true);
                }
            }

            private void addIfRelated(TreeMap<String, Integer> words, String upper, String lower) {
                if (of(upper, false).containsKey(lower)) {
                    words.put(upper, 0);
                }
            }
        };
    }
}
