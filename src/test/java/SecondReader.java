import java.util.ArrayList;
import java.util.HashMap;
import java.util.HashSet;
import java.util.List;
import java.util.Map;
import java.util.Set;
import java.util.TreeSet;
import java.util.regex.Matcher;
import java.util.regex.Pattern;

/** A second reader of posts: all faults of each token are gathered, the least of the first faulty one counts. */
final class SecondReader {
    int kind = 0;
    int place = -1;
    int clauses = 0;

    private static final Map<String, String> SHAPES = Map.of("weeks", "1-5", "cases", "0-99",
        "winter", "W 0-10 0-10 0-10 0-10", "thing", "T 1-9 0-99 0-99 0-500 0-99 S", "want", "t w 0-10 0-10 0-10 0-10 0-3",
        "instead", "t u 0-100", "family", "F 0-10 1-500 0-500");
    private static final Map<String, Integer> ROOMS = Map.of("winter", 4, "thing", 4, "family", 6);

    private final Map<String, List<String>> names = new HashMap<>();
    private final Set<String> seen = new HashSet<>();
    private int weights = 0;

    SecondReader(String text) {
        names.put("winter", new ArrayList<>());
        names.put("thing", new ArrayList<>());
        names.put("family", new ArrayList<>());
        Matcher tokens = Pattern.compile("[a-z]+|[0-9]+|[^ \n]").matcher(text);
        List<String> clause = new ArrayList<>();
        while (tokens.find()) {
            String token = tokens.group();
            TreeSet<Integer> faults = faults(clause, token);
            if (!faults.isEmpty()) {
                kind = faults.first();
                place = tokens.start();
                return;
            }
            clause.add(token);
            if (token.equals(";")) {
                settle(clause);
                clauses++;
                clause.clear();
            }
        }
        if (!clause.isEmpty()) {
            kind = 1;
        } else if (!names.get("winter").isEmpty() && weights != 10) {
            kind = 7;
        }
        place = text.length();
    }

    private TreeSet<Integer> faults(List<String> clause, String token) {
        TreeSet<Integer> faults = new TreeSet<>();
        boolean isWord = token.matches("[a-z]{1,8}");
        if (clause.isEmpty()) {
            if (!SHAPES.containsKey(token)) {
                faults.add(1);
            }
            if (seen.contains(token)) {
                faults.add(3);
            }
            if (ROOMS.containsKey(token) && names.get(token).size() >= ROOMS.get(token)) {
                faults.add(4);
            }
            if (token.equals("weeks") && clauses > 0) {
                faults.add(6);
            }
            return faults;
        }
        String[] shape = SHAPES.get(clause.get(0)).split(" ");
        int at = clause.size() - 1;
        if (at == shape.length) {
            if (!token.equals(";")) {
                faults.add(1);
            }
        } else if (Character.isLetter(shape[at].charAt(0)) && !shape[at].equals("S")) {
            if (!isWord) {
                faults.add(1);
            }
            nameFaults(faults, shape[at], clause, token);
        } else if (!token.matches("[0-9]{1,3}")) {
            faults.add(1);
        } else {
            numberFaults(faults, shape[at], clause, Integer.parseInt(token));
        }
        return faults;
    }

    private void nameFaults(Set<Integer> faults, String due, List<String> clause, String token) {
        switch (due) {
            case "W": case "T": case "F":
                if (names.get(clause.get(0)).contains(token)) {
                    faults.add(3);
                }
                break;
            case "w":
                if (!names.get("winter").contains(token)) {
                    faults.add(5);
                }
                if (seen.contains("want " + clause.get(1) + " " + token)) {
                    faults.add(3);
                }
                break;
            default:
                if (!names.get("thing").contains(token)) {
                    faults.add(5);
                }
                if (due.equals("u") && (token.equals(clause.get(1)) || seen.contains("instead " + token))) {
                    faults.add(3);
                }
        }
    }

    private void numberFaults(Set<Integer> faults, String due, List<String> clause, int n) {
        if (due.equals("S")) {
            if (n == 1 || n > 9) {
                faults.add(2);
            }
            return;
        }
        String[] bounds = due.split("-");
        if (n < Integer.parseInt(bounds[0]) || n > Integer.parseInt(bounds[1])) {
            faults.add(2);
        }
        boolean isLast = clause.get(0).equals("winter") && clause.size() == 5 || clause.get(0).equals("want") && clause.size() == 6;
        if (isLast) {
            int sum = n;
            for (int i = 3; i < clause.size(); i++) {
                sum += Integer.parseInt(clause.get(i));
            }
            if (sum != 10) {
                faults.add(7);
            }
        }
    }

    private void settle(List<String> clause) {
        String first = clause.get(0);
        if (names.containsKey(first)) {
            names.get(first).add(clause.get(1));
        }
        if (first.equals("weeks") || first.equals("cases")) {
            seen.add(first);
        }
        if (first.equals("winter")) {
            weights += Integer.parseInt(clause.get(2));
        }
        if (first.equals("want")) {
            seen.add("want " + clause.get(1) + " " + clause.get(2));
        }
        if (first.equals("instead")) {
            seen.add("instead " + clause.get(2));
        }
    }
}
