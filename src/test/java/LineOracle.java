import java.util.HashSet;
import java.util.Set;

/** Tells good lines and bad places by the document's own words: from all good ranges, written out. */
final class LineOracle {
    static final int GOOD = -1;

    private final Set<String> ranges = new HashSet<>();
    private final Set<String> beginnings = new HashSet<>();

    LineOracle() {
        Set<String> numbers = new HashSet<>();
        for (int n = 0; n <= 255; n++) {
            numbers.add(String.format("%d", n));
            numbers.add(String.format("%02d", n));
            numbers.add(String.format("%03d", n));
        }
        addRange("*");
        for (String low : numbers) {
            addRange(low);
            for (String high : numbers) {
                if (Integer.parseInt(low) <= Integer.parseInt(high)) {
                    addRange(low + "-" + high);
                }
            }
        }
    }

    private void addRange(String range) {
        ranges.add(range);
        for (int length = 0; length <= range.length(); length++) {
            beginnings.add(range.substring(0, length));
        }
    }

    /** GOOD, or the bad place. */
    int badPlace(String line) {
        for (int length = 1; length <= line.length(); length++) {
            if (!isBeginning(line.substring(0, length))) {
                return length - 1;
            }
        }
        return isGood(line) ? GOOD : line.length();
    }

    private boolean isBeginning(String text) {
        if (!beginsWithLetters(text)) {
            return false;
        }
        if (text.length() <= 3) {
            return true;
        }
        String[] parts = text.substring(3).split(",", -1);
        for (int i = 0; i < parts.length - 1; i++) {
            if (!ranges.contains(parts[i])) {
                return false;
            }
        }
        return parts.length <= 3 && beginnings.contains(parts[parts.length - 1]);
    }

    private boolean isGood(String text) {
        if (text.length() < 3 || !beginsWithLetters(text)) {
            return false;
        }
        String[] parts = text.substring(3).split(",", -1);
        return parts.length == 3 && ranges.contains(parts[0]) && ranges.contains(parts[1])
                && ranges.contains(parts[2]);
    }

    private static boolean beginsWithLetters(String text) {
        String[] letters = {"PDS", "iob", "tue*"};
        for (int i = 0; i < 3 && i < text.length(); i++) {
            if (letters[i].indexOf(text.charAt(i)) < 0) {
                return false;
            }
        }
        return true;
    }
}
