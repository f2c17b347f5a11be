import java.math.BigInteger;
import java.util.ArrayList;
import java.util.Comparator;
import java.util.HashSet;
import java.util.LinkedHashMap;
import java.util.List;
import java.util.Map;
import java.util.Set;
import java.util.regex.Matcher;
import java.util.regex.Pattern;

/**
 * The document once more, written for the tests in another way: sets and whole copies
 * instead of bits and deeds, each set of COCKS and each weather tried.
 */
final class Model {
    /** All that may be undone: a copy of each moment. */
    private static final class Moment {
        private int hour = 0;
        private int[] roofs = new int[24];
        private final Set<Integer> asked = new HashSet<>();
        /** "cock/person/hour". */
        private final Set<String> saw = new HashSet<>();

        private Moment copy() {
            Moment copy = new Moment();
            copy.hour = hour;
            copy.roofs = roofs.clone();
            copy.asked.addAll(asked);
            copy.saw.addAll(saw);
            return copy;
        }
    }

    private final StringBuilder text = new StringBuilder();
    private List<int[]> cocks = new ArrayList<>();
    private List<int[]> people = new ArrayList<>();
    private List<int[]> smokes = new ArrayList<>();
    private Moment at = new Moment();
    private List<Moment> past = new ArrayList<>();
    private final Map<Integer, Moment> images = new LinkedHashMap<>();
    private final Map<Integer, List<Moment>> imagePasts = new LinkedHashMap<>();
    private final List<int[]> facedList = new ArrayList<>();
    private final List<int[]> metList = new ArrayList<>();
    private long trace = 0;

    // ---- the diocese

    int type(int c) {
        if (c < 0 || c > 255) return -1;
        if (text.length() == 150) return -3;
        text.append((char) c);
        return text.length();
    }

    int clear() {
        int had = text.length();
        text.setLength(0);
        return had;
    }

    private static final Pattern TOKEN = Pattern.compile("[a-z]+|[0-9]+|[^ ]", Pattern.DOTALL);

    int diocese() {
        List<String> tokens = new ArrayList<>();
        List<Integer> places = new ArrayList<>();
        Matcher matcher = TOKEN.matcher(text);
        while (matcher.find()) {
            tokens.add(matcher.group());
            places.add(matcher.start());
        }
        tokens.add("");
        places.add(text.length());
        Map<String, List<int[]>> told = new LinkedHashMap<>();
        for (String item : new String[] {"r", "c", "p", "s"}) told.put(item, new ArrayList<>());
        int items = 0;
        int i = 0;
        while (!tokens.get(i).isEmpty()) {
            List<int[]> rows = told.get(tokens.get(i));
            if (rows == null) return -10 - places.get(i);
            int[][] ranges = ranges(tokens.get(i));
            if (rows.size() == most(tokens.get(i))) return -10 - places.get(i);
            i++;
            int[] row = new int[ranges.length];
            for (int field = 0; field < row.length; field++) {
                String number = tokens.get(i);
                if (!number.matches("0|[1-9][0-9]?")) return -10 - places.get(i);
                row[field] = Integer.parseInt(number);
                if (row[field] < ranges[field][0] || row[field] > ranges[field][1]) return -10 - places.get(i);
                if (rows == told.get("s") && field == 2 && row[2] < row[1]) return -10 - places.get(i);
                i++;
            }
            if (!tokens.get(i).equals(";")) return -10 - places.get(i);
            i++;
            rows.add(row);
            items++;
        }
        begin(told);
        return items;
    }

    private static int[][] ranges(String item) {
        switch (item) {
            case "r": return new int[][] {{0, 23}, {0, 9}};
            case "c": return new int[][] {{0, 23}, {1, 5}, {0, 1}, {0, 9}};
            case "p": return new int[][] {{0, 23}, {0, 6}};
            default: return new int[][] {{0, 23}, {0, 29}, {0, 29}};
        }
    }

    private static int most(String item) {
        return item.equals("r") ? Integer.MAX_VALUE : item.equals("c") ? 5 : 4;
    }

    private void begin(Map<String, List<int[]>> told) {
        cocks = told.get("c");
        people = told.get("p");
        smokes = told.get("s");
        at = new Moment();
        for (int[] row : told.get("r")) at.roofs[row[0]] = row[1];
        past = new ArrayList<>();
        images.clear();
        imagePasts.clear();
        facedList.clear();
        metList.clear();
        text.setLength(0);
    }

    int roof(int x) {
        return x < 0 || x > 23 ? -1 : at.roofs[x];
    }

    int cock(int c, int what) {
        if (noCock(c) || what < 0 || what > 7) return -1;
        int[] cock = cocks.get(c);
        if (what < 4) return cock[what];
        if (what == 4) return eye(c);
        if (what == 5) return faces(cock[2], cock[3], at.hour);
        if (what == 6) return at.asked.contains(c) ? 1 : 0;
        return telling(c);
    }

    int one(int p, int what) {
        if (noOne(p) || what < 0 || what > 2) return -1000000;
        int[] one = people.get(p);
        if (what == 0) return one[0];
        if (what == 1) return one[1] - 3;
        return place(p, at.hour);
    }

    int saw(int c, int p) {
        if (noCock(c) || noOne(p)) return -1;
        int bits = 0;
        for (int h = 0; h < 30; h++) if (at.saw.contains(c + "/" + p + "/" + h)) bits += 1 << h;
        return bits;
    }

    int known(int p) {
        if (noOne(p)) return -1;
        int bits = 0;
        for (int h = 0; h < 30; h++) if (knownBy(at.asked).contains(p + "/" + h)) bits += 1 << h;
        return bits;
    }

    // ---- what is done

    int hours(int n) {
        if (n < 1 || n > 9) return -1;
        if (at.hour == 30) return -2;
        remember();
        for (int i = 0; i < n && at.hour < 30; i++) {
            for (int c = 0; c < cocks.size(); c++) {
                for (int p = 0; p < people.size(); p++) {
                    int x = place(p, at.hour);
                    if (x == -9 || at.asked.contains(c) || smoky(x, at.hour) || !sees(c, x, at.hour)) continue;
                    at.saw.add(c + "/" + p + "/" + at.hour);
                }
            }
            at.hour++;
        }
        return at.hour;
    }

    int builds(int x, int height) {
        if (x < 0 || x > 23 || height < 0 || height > 9) return -1;
        int before = at.roofs[x];
        if (before == height) return -2;
        remember();
        at.roofs[x] = height;
        return before;
    }

    int asks(int c) {
        if (noCock(c)) return -1;
        if (at.asked.contains(c)) return -2;
        int before = knownBy(at.asked).size();
        remember();
        at.asked.add(c);
        return knownBy(at.asked).size() - before;
    }

    int undo() {
        if (past.isEmpty()) return -2;
        at = past.remove(past.size() - 1);
        return past.size();
    }

    private void remember() {
        past.add(at.copy());
        if (past.size() > 10) past.remove(0);
    }

    int now(int what) {
        if (what == 0) return at.hour;
        if (what == 1) return at.asked.stream().mapToInt(c -> 1 << c).sum();
        if (what == 2) return knownBy(at.asked).size();
        if (what == 3) return knownBy(everyCock()).size();
        return what == 4 ? cover() : -1;
    }

    private int cover() {
        List<Integer> covering = new ArrayList<>();
        for (int set : setsNotAsked()) {
            if (knownBy(with(set)).containsAll(knownBy(everyCock()))) covering.add(set);
        }
        covering.sort(Comparator.<Integer>comparingInt(Integer::bitCount).thenComparingInt(s -> s));
        return covering.get(0);
    }

    // ---- what could be

    int view(int c, int hour) {
        if (noCock(c) || hour < 0 || hour > 29) return -1;
        int bits = 0;
        for (int x = 0; x < 24; x++) if (sees(c, x, hour)) bits += 1 << x;
        return bits;
    }

    int blind(int hour) {
        if (hour < 0 || hour > 29) return -1;
        int bits = 0;
        for (int x = 0; x < 24; x++) {
            boolean isSeen = false;
            for (int c = 0; c < cocks.size(); c++) isSeen |= !at.asked.contains(c) && sees(c, x, hour);
            if (!isSeen) bits += 1 << x;
        }
        return bits;
    }

    int most(int n, int what) {
        if (n < 0 || n > 60 || what < 0 || what > 1) return -1;
        List<Integer> sets = new ArrayList<>();
        for (int set : setsNotAsked()) {
            int hours = 0;
            for (int c = 0; c < cocks.size(); c++) if ((set & 1 << c) != 0) hours += 1 + telling(c) / 4;
            if (hours <= n) sets.add(set);
        }
        sets.sort(Comparator.<Integer>comparingInt(s -> -knownBy(with(s)).size())
            .thenComparingInt(Integer::bitCount).thenComparingInt(s -> s));
        return what == 0 ? sets.get(0) : knownBy(with(sets.get(0))).size();
    }

    int odds(int c, int x, int from, int to, int chance, int what) {
        if (noCock(c) || x < 0 || x > 23 || from < 0 || from > to || to > 29 || to - from + 1 > 8) return -1;
        if (chance < 0 || chance > 10 || what < 0 || what > 1) return -1;
        int n = to - from + 1;
        long upper = 0;
        long lower = 0;
        for (int weather = 0; weather < 1 << n; weather++) {
            long weight = 1;
            boolean isSeen = false;
            for (int i = 0; i < n; i++) {
                boolean isSmoke = (weather & 1 << i) != 0;
                weight *= isSmoke ? chance : 10 - chance;
                isSeen |= !isSmoke && sees(c, x, from + i);
            }
            lower += weight;
            if (isSeen) upper += weight;
        }
        long shared = BigInteger.valueOf(upper).gcd(BigInteger.valueOf(lower)).longValueExact();
        return (int) ((what == 0 ? upper : lower) / shared);
    }

    // ---- laws, ways

    int faced(int hour, int side) {
        if (hour < 0 || hour > 29 || side < 0 || side > 1) return -1;
        if (facedList.size() == 6) return -3;
        facedList.add(new int[] {hour, side});
        return facedList.size();
    }

    private List<int[]> lawList() {
        List<int[]> laws = new ArrayList<>();
        for (int law = 0; law < 20; law++) {
            int[] two = {law / 10, law % 10};
            if (facedList.stream().allMatch(f -> faces(two[0], two[1], f[0]) == f[1])) laws.add(two);
        }
        return laws;
    }

    int laws(int what) {
        List<int[]> laws = lawList();
        if (what == 0) return laws.size();
        if (what != 1) return -1;
        return laws.isEmpty() ? -9 : laws.get(0)[0] * 10 + laws.get(0)[1];
    }

    int tryNext() {
        List<int[]> laws = lawList();
        if (laws.size() < 2) return -9;
        int best = -9;
        int bestGreater = Integer.MAX_VALUE;
        for (int hour = 0; hour < 30; hour++) {
            int[] parts = new int[2];
            for (int[] law : laws) parts[faces(law[0], law[1], hour)]++;
            if (parts[0] == 0 || parts[1] == 0) continue;
            int greater = Math.max(parts[0], parts[1]);
            if (greater < bestGreater) {
                bestGreater = greater;
                best = hour;
            }
        }
        return best;
    }

    int met(int x, int hour) {
        if (x < 0 || x > 23 || hour < 0 || hour > 29) return -1;
        if (metList.size() == 6) return -3;
        metList.add(new int[] {x, hour});
        return metList.size();
    }

    private int falsesBy(int start, int speed) {
        return (int) metList.stream().filter(m -> start + speed * m[1] != m[0]).count();
    }

    /** How many ways there are by which so much is false; the first in the second place. */
    private int[] waysWith(int falses) {
        int[] answer = {0, -9};
        for (int start = 0; start < 24; start++) {
            for (int speed = -3; speed <= 3; speed++) {
                if (falsesBy(start, speed) != falses) continue;
                if (answer[0] == 0) answer[1] = 10 * start + speed + 3;
                answer[0]++;
            }
        }
        return answer;
    }

    int ways(int what) {
        return what == 0 || what == 1 ? waysWith(0)[what] : -1;
    }

    int falses(int what) {
        int falses = 0;
        while (waysWith(falses)[0] == 0) falses++;
        if (what == 0) return falses;
        return what == 1 ? waysWith(falses)[1] : -1;
    }

    int forget() {
        int both = facedList.size() + metList.size();
        facedList.clear();
        metList.clear();
        return both;
    }

    // ---- kinds, images

    int mark(int kind, int c) {
        if (noCock(c) || kind < 0 || kind > 5) return -1000000;
        int cell = cocks.get(c)[0];
        int[] marks = {eye(c), eye(c) + telling(c), eye(c) - cell, 2 * (eye(c) + telling(c)), eye(c) - cell + c,
            eye(c) + at.hour};
        long[] traces = {1, 11, 101, 1011, 10101, 100001};
        trace += traces[kind];
        return marks[kind];
    }

    int keep(int image) {
        if (image < 0 || image > 1) return -1;
        images.put(image, at.copy());
        imagePasts.put(image, copies(past));
        return at.hour;
    }

    int back(int image) {
        if (image < 0 || image > 1) return -1;
        if (!images.containsKey(image)) return -2;
        at = images.get(image).copy();
        past = copies(imagePasts.get(image));
        return at.hour;
    }

    private static List<Moment> copies(List<Moment> moments) {
        List<Moment> copies = new ArrayList<>();
        for (Moment moment : moments) copies.add(moment.copy());
        return copies;
    }

    int count(int what) {
        int[] counts = {cocks.size(), people.size(), smokes.size(), facedList.size(), metList.size(), past.size(),
            text.length()};
        return what < 0 || what > 6 ? -1 : counts[what];
    }

    long trace() {
        return trace;
    }

    // ---- what is asked above

    private boolean noCock(int c) {
        return c < 0 || c >= cocks.size();
    }

    private boolean noOne(int p) {
        return p < 0 || p >= people.size();
    }

    private static int faces(int side, int turn, int hour) {
        int faces = side;
        for (int h = 1; h <= hour; h++) if (turn != 0 && h % turn == 0) faces = 1 - faces;
        return faces;
    }

    private int eye(int c) {
        return at.roofs[cocks.get(c)[0]] + cocks.get(c)[1];
    }

    private int place(int p, int hour) {
        int x = people.get(p)[0] + hour * (people.get(p)[1] - 3);
        return x < 0 || x > 23 ? -9 : x;
    }

    private boolean smoky(int x, int hour) {
        return smokes.stream().anyMatch(s -> s[0] == x && s[1] <= hour && hour <= s[2]);
    }

    private boolean sees(int c, int x, int hour) {
        int[] cock = cocks.get(c);
        if (faces(cock[2], cock[3], hour) == 0 ? x >= cock[0] : x <= cock[0]) return false;
        for (int m = Math.min(x, cock[0]) + 1; m < Math.max(x, cock[0]); m++) {
            // by the slope from the eye on: up to m it must be no steeper than up to x
            int upToX = (at.roofs[x] - eye(c)) * Math.abs(m - cock[0]);
            int upToM = (at.roofs[m] - eye(c)) * Math.abs(x - cock[0]);
            if (upToM > upToX) return false;
        }
        return true;
    }

    private int telling(int c) {
        return (int) at.saw.stream().filter(s -> s.startsWith(c + "/")).count();
    }

    /** "person/hour". */
    private Set<String> knownBy(Set<Integer> asked) {
        Set<String> known = new HashSet<>();
        for (String s : at.saw) {
            if (asked.contains(Integer.parseInt(s.substring(0, 1)))) known.add(s.substring(2));
        }
        return known;
    }

    private Set<Integer> everyCock() {
        return with((1 << cocks.size()) - 1);
    }

    private Set<Integer> with(int set) {
        Set<Integer> all = new HashSet<>(at.asked);
        for (int c = 0; c < cocks.size(); c++) if ((set & 1 << c) != 0) all.add(c);
        return all;
    }

    private List<Integer> setsNotAsked() {
        List<Integer> sets = new ArrayList<>();
        for (int set = 0; set < 1 << cocks.size(); set++) {
            boolean isFree = true;
            for (int c : at.asked) isFree &= (set & 1 << c) == 0;
            if (isFree) sets.add(set);
        }
        return sets;
    }
}
