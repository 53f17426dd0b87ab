import java.util.ArrayList;
import java.util.List;
import java.util.TreeMap;

/**
 * A second, slow reading of the document, unlike the class in its build: one sorted map from whole
 * names (the root is "", an entry its directory's whole name, a slash and its own name) to contents.
 */
final class Model {
    private static final int NONE = -1;

    /** A file's bytes; directories have the value DIRECTORY. */
    private final TreeMap<String, List<Integer>> contents = new TreeMap<>();
    private static final List<Integer> DIRECTORY = List.of(-1);
    private String atHand = "";
    private String path = "";
    private boolean isOpen = false;
    /** The open file's whole name; null when it was removed. */
    private String openName = null;

    Model() {
        contents.put("", DIRECTORY);
    }

    int path(long chars, int n) {
        if (n < 0 || n > 8) {
            return NONE;
        }
        String added = "";
        for (int i = 0; i < n; i++) {
            added = (char) (chars >> 8 * i & 255) + added;
        }
        if (!added.matches("[\\t\\n -~]*") || path.length() + added.length() > 250) {
            return NONE;
        }
        path += added;
        return path.length();
    }

    int find() {
        String found = lead(takePath());
        return found == null ? 0 : isDirectory(found) ? 2 : 1;
    }

    boolean make() {
        String made = whereMade(takePath());
        if (made != null) {
            contents.put(made, DIRECTORY);
        }
        return made != null;
    }

    boolean go() {
        String found = lead(takePath());
        if (found == null || !isDirectory(found)) {
            return false;
        }
        atHand = found;
        return true;
    }

    boolean open() {
        String given = takePath();
        String found = lead(given);
        if (found == null) {
            found = whereMade(given);
            if (found != null) {
                contents.put(found, new ArrayList<>());
            }
        }
        isOpen = found != null && !isDirectory(found);
        openName = isOpen ? found : null;
        return isOpen;
    }

    int empty() {
        int lost = count(6);
        if (openName != null) {
            contents.get(openName).clear();
        }
        return lost;
    }

    int write(long bytes, int n) {
        if (!isOpen || n < 0 || n > 8) {
            return NONE;
        }
        for (int i = n - 1; i >= 0 && openName != null; i--) {
            if (count(6) < 16384 && count(2) < 65536) {
                contents.get(openName).add((int) (bytes >> 8 * i & 255));
            }
        }
        return count(6);
    }

    int byteAt(int i) {
        return openName == null || i < 0 || i >= count(6) ? NONE : contents.get(openName).get(i);
    }

    boolean remove() {
        String found = lead(takePath());
        if (found == null || isDirectory(found)) {
            return false;
        }
        contents.remove(found);
        if (found.equals(openName)) {
            openName = null;
        }
        return true;
    }

    boolean move() {
        String given = takePath();
        if (openName == null) {
            return false;
        }
        String found = lead(given);
        String place = found != null && isDirectory(found)
            ? found + openName.substring(openName.lastIndexOf('/'))
            : placeOf(given);
        if (place == null || place.equals(openName) || contents.containsKey(place) && isDirectory(place)) {
            return false;
        }
        contents.put(place, contents.remove(openName));
        openName = place;
        return true;
    }

    int name(int k, int i) {
        List<String> names = namesAtHand();
        return k < 0 || k >= names.size() || i < 0 || i >= names.get(k).length() ? NONE : names.get(k).charAt(i);
    }

    int count(int what) {
        int directories = (int) contents.keySet().stream().filter(this::isDirectory).count();
        return switch (what) {
            case 0 -> contents.size() - directories;
            case 1 -> directories;
            case 2 -> contents.values().stream().filter(c -> c != DIRECTORY).mapToInt(List::size).sum();
            case 3 -> namesAtHand().size();
            case 4 -> (int) atHand.chars().filter(c -> c == '/').count();
            case 5 -> path.length();
            case 6 -> !isOpen ? NONE : openName == null ? 0 : contents.get(openName).size();
            default -> NONE;
        };
    }

    private String takePath() {
        String taken = path;
        path = "";
        return taken;
    }

    private boolean isDirectory(String whole) {
        return contents.get(whole) == DIRECTORY;
    }

    private List<String> namesAtHand() {
        List<String> names = new ArrayList<>();
        for (String whole : contents.keySet()) {
            if (whole.lastIndexOf('/') == atHand.length() && whole.startsWith(atHand + "/")) {
                names.add(whole.substring(atHand.length() + 1));
            }
        }
        names.sort(null);
        return names;
    }

    /** The whole name to which a path leads, or null. */
    private String lead(String given) {
        if (given.isEmpty()) {
            return null;
        }
        String here = given.startsWith("/") ? "" : atHand;
        for (String name : given.split("/")) {
            if (name.isEmpty()) {
                continue;
            }
            if (!isDirectory(here)) {
                return null;
            }
            if (name.equals("..")) {
                here = here.isEmpty() ? "" : here.substring(0, here.lastIndexOf('/'));
            } else if (!name.equals(".")) {
                here = here + "/" + name;
            }
            if (!contents.containsKey(here)) {
                return null;
            }
        }
        return given.endsWith("/") && !isDirectory(here) ? null : here;
    }

    /** The whole name of a path's last name in its home; null if either can't be. */
    private String placeOf(String given) {
        int slash = given.lastIndexOf('/');
        String last = given.substring(slash + 1);
        String home = slash < 0 ? atHand : lead(given.substring(0, slash + 1));
        boolean can = home != null && isDirectory(home) && last.length() >= 1 && last.length() <= 60
            && !last.equals(".") && !last.equals("..");
        return can ? home + "/" + last : null;
    }

    private String whereMade(String given) {
        String place = placeOf(given);
        return place == null || contents.containsKey(place) || contents.size() >= 300 ? null : place;
    }
}
