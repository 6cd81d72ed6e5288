import java.util.ArrayDeque;
import java.util.ArrayList;
import java.util.Deque;
import java.util.HashMap;
import java.util.List;
import java.util.Map;

/** The document said once more with the Java library, as plainly as it goes, to be compared with PieceText. */
final class PlainText {
    private String text = "";
    private String pattern = "";
    private List<Integer> words = new ArrayList<>();
    private final Deque<String> past = new ArrayDeque<>();
    private final Deque<String> future = new ArrayDeque<>();

    int length() {
        return text.length();
    }

    int wordCount() {
        return words.size();
    }

    private int act(String next) {
        past.addLast(text);
        if (past.size() > 12) {
            past.removeFirst();
        }
        future.clear();
        text = next;
        return text.length();
    }

    private void place(int place) {
        if (place < 0 || place > text.length()) {
            throw new IndexOutOfBoundsException();
        }
    }

    private static void argument(boolean fine) {
        if (!fine) {
            throw new IllegalArgumentException();
        }
    }

    private static void limit(boolean fine) {
        if (!fine) {
            throw new UnsupportedOperationException();
        }
    }

    private static void state(boolean fine) {
        if (!fine) {
            throw new IllegalStateException();
        }
    }

    private static boolean isCharacter(int c) {
        return c >= 0 && c <= 255;
    }

    int insert(int place, int c) {
        place(place);
        argument(isCharacter(c));
        limit(text.length() < 240);
        return act(text.substring(0, place) + (char) c + text.substring(place));
    }

    int delete(int place, int n) {
        place(place);
        argument(n >= 0 && (long) place + n <= text.length());
        return act(text.substring(0, place) + text.substring(place + n));
    }

    int copy(int place, int n, int to) {
        place(place);
        place(to);
        argument(n >= 0 && (long) place + n <= text.length());
        limit(text.length() + n <= 240);
        return act(text.substring(0, to) + text.substring(place, place + n) + text.substring(to));
    }

    int at(int place) {
        return text.charAt(place);
    }

    int undo() {
        state(!past.isEmpty());
        future.addFirst(text);
        text = past.removeLast();
        return text.length();
    }

    int redo() {
        state(!future.isEmpty());
        past.addLast(text);
        text = future.removeFirst();
        return text.length();
    }

    int pattern(int c) {
        argument(isCharacter(c));
        limit(pattern.length() < 16);
        pattern = pattern + (char) c;
        return pattern.length();
    }

    int noPattern() {
        int had = pattern.length();
        pattern = "";
        return had;
    }

    int find(int from) {
        place(from);
        return text.indexOf(pattern, from);
    }

    int replace(int c) {
        argument(isCharacter(c));
        state(!pattern.isEmpty());
        int times = 0;
        for (int i = text.indexOf(pattern); i >= 0; i = text.indexOf(pattern, i + pattern.length())) {
            times++;
        }
        act(text.replace(pattern, String.valueOf((char) c)));
        return times;
    }

    int snapshot() {
        words = new ArrayList<>();
        Map<String, Integer> numbers = new HashMap<>();
        numbers.put("", 0);
        String rest = text;
        while (!rest.isEmpty()) {
            int n = rest.length();
            while (!numbers.containsKey(rest.substring(0, n))) {
                n--;
            }
            int k = numbers.get(rest.substring(0, n));
            boolean ends = n == rest.length();
            words.add(257 * k + (ends ? 256 : rest.charAt(n)));
            if (!ends) {
                numbers.put(rest.substring(0, n + 1), words.size());
            }
            rest = ends ? "" : rest.substring(n + 1);
        }
        return words.size();
    }

    int word(int i) {
        return words.get(i);
    }

    int poke(int i, int word) {
        return words.set(i, word);
    }

    int restore() {
        List<String> phrases = new ArrayList<>();
        phrases.add("");
        String made = "";
        for (int i = 0; i < words.size(); i++) {
            int k = Math.floorDiv(words.get(i), 257);
            int c = Math.floorMod(words.get(i), 257);
            boolean last = i + 1 == words.size();
            if (k < 0 || k > i || c == 256 && (!last || k == 0)) {
                return -1 - i;
            }
            phrases.add(phrases.get(k) + (c == 256 ? "" : String.valueOf((char) c)));
            made += phrases.get(i + 1);
            if (made.length() > 240) {
                return -1 - i;
            }
        }
        return act(made);
    }

    int told(int what) {
        int[] counts = {text.length(), past.size(), future.size(), pattern.length(), words.size(),
            (int) text.chars().distinct().count()};
        return what < 0 || what > 5 ? -1 : counts[what];
    }

    int clear() {
        text = "";
        pattern = "";
        words = new ArrayList<>();
        past.clear();
        future.clear();
        return 0;
    }
}
