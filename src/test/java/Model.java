import java.util.ArrayDeque;
import java.util.ArrayList;
import java.util.Deque;
import java.util.LinkedHashSet;
import java.util.List;
import java.util.Map;
import java.util.TreeMap;
import java.util.regex.Matcher;
import java.util.regex.Pattern;

/** The document once more, in other words: collections that are copied, and a pattern for the texts. */
final class Model {
    private static final String NUMBER = "(?:0|[1-9][0-9]{0,4})";
    private static final String ORDER = "[0-5](?::" + NUMBER + "(?:," + NUMBER + ")*|&[0-5]|!|\\*" + NUMBER + "\\+"
        + NUMBER + "|/)";
    private static final Pattern TEXT = Pattern.compile(ORDER + "(?:;" + ORDER + ")*");

    /** A sketch; its list is null if it is full. Only buckets that are not empty have a rank here. */
    private static final class Sketch {
        int bits = 4;
        Map<Integer, Integer> ranks = new TreeMap<>();
        LinkedHashSet<Integer> list = new LinkedHashSet<>();

        Sketch copy() {
            Sketch copy = new Sketch();
            copy.bits = bits;
            copy.ranks = new TreeMap<>(ranks);
            copy.list = list == null ? null : new LinkedHashSet<>(list);
            return copy;
        }

        int buckets() {
            return (int) Math.pow(2, bits);
        }

        int rank(int bucket) {
            return ranks.getOrDefault(bucket, 0);
        }

        boolean take(int thing, int salt) {
            int before = rank(bucketOf(thing, salt));
            ranks.merge(bucketOf(thing, salt), rankOf(thing, salt), Math::max);
            list(List.of(thing));
            return rank(bucketOf(thing, salt)) != before;
        }

        int bucketOf(int thing, int salt) {
            return Due.hash(thing, salt) % buckets();
        }

        int rankOf(int thing, int salt) {
            return Due.rankOfLeft(Due.hash(thing, salt) / buckets(), bits);
        }

        void list(Iterable<Integer> things) {
            for (int thing : things) {
                if (list != null) {
                    list.add(thing);
                    list = list.size() > 40 ? null : list;
                }
            }
        }

        void join(Sketch other) {
            other.ranks.forEach((bucket, rank) -> ranks.merge(bucket, rank, Math::max));
            if (other.list == null) {
                list = null;
            } else {
                list(new ArrayList<>(other.list));
            }
        }

        void fold() {
            Map<Integer, Integer> folded = new TreeMap<>();
            int half = buckets() / 2;
            ranks.forEach((bucket, rank) -> folded.merge(bucket % half, bucket < half ? rank + 1 : 1, Math::max));
            ranks = folded;
            bits--;
        }

        void empty() {
            ranks.clear();
            list = new LinkedHashSet<>();
        }

        long sum() {
            long sum = 0;
            for (int bucket = 0; bucket < buckets(); bucket++) {
                sum += 65536 / (long) Math.pow(2, rank(bucket));
            }
            return sum;
        }

        long raw() {
            long m = buckets();
            return m * m * 65536 * 7 / (10 * sum());
        }

        long estimate() {
            int m = buckets();
            int e = m - ranks.size();
            if (raw() > 5 * m / 2 || e == 0) {
                return raw();
            }
            long sum = 0;
            for (int k = m; k > e; k--) {
                sum += m / k;
            }
            return sum;
        }

        long told() {
            return estimate() * 104 / (100 * (long) Math.floor(Math.sqrt(buckets())));
        }
    }

    private static final class State {
        int salt = 12345;
        List<Sketch> sketches = new ArrayList<>();

        State copy() {
            State copy = new State();
            copy.salt = salt;
            for (Sketch sketch : sketches) {
                copy.sketches.add(sketch.copy());
            }
            return copy;
        }

        int filled() {
            return sketches.stream().mapToInt(s -> s.ranks.size()).sum();
        }
    }

    private State now = new State();
    private final State[] slots = new State[2];
    private final Deque<State> history = new ArrayDeque<>();
    private String pad = "";

    Model() {
        for (int number = 0; number < 6; number++) {
            now.sketches.add(new Sketch());
        }
    }

    private static boolean no(int sketch) {
        return sketch < 0 || sketch > 5;
    }

    private static boolean within(int number, int least, int greatest) {
        return least <= number && number <= greatest;
    }

    private Sketch at(int sketch) {
        return now.sketches.get(sketch);
    }

    private void record() {
        history.addLast(now.copy());
        if (history.size() > 6) {
            history.removeFirst();
        }
    }

    long salt(int salt) {
        if (!within(salt, 0, 65535)) return Due.BAD_VALUE;
        record();
        int before = now.salt;
        now.salt = salt;
        now.sketches.forEach(Sketch::empty);
        return before;
    }

    long bits(int sketch, int bits) {
        if (no(sketch)) return Due.NO_SUCH;
        if (!within(bits, 2, 6)) return Due.BAD_VALUE;
        record();
        int before = at(sketch).bits;
        at(sketch).empty();
        at(sketch).bits = bits;
        return before;
    }

    long add(int sketch, int thing) {
        if (no(sketch)) return Due.NO_SUCH;
        if (!within(thing, 0, 99999)) return Due.BAD_VALUE;
        record();
        return at(sketch).take(thing, now.salt) ? 1 : 0;
    }

    private long rangeInto(int sketch, int from, int many) {
        long changes = 0;
        for (int thing = from; thing < from + many; thing++) {
            changes += at(sketch).take(thing, now.salt) ? 1 : 0;
        }
        return changes;
    }

    private static boolean range(int from, int many) {
        return within(from, 0, 99999) && within(many, 1, 999) && from + many <= 100000;
    }

    long addRange(int sketch, int from, int many) {
        if (no(sketch)) return Due.NO_SUCH;
        if (!range(from, many)) return Due.BAD_VALUE;
        record();
        return rangeInto(sketch, from, many);
    }

    private boolean unlike(int one, int other) {
        return at(one).bits != at(other).bits;
    }

    long join(int sketch, int other) {
        if (no(sketch) || no(other)) return Due.NO_SUCH;
        if (sketch == other || unlike(sketch, other)) return Due.NOT_POSSIBLE;
        record();
        at(sketch).join(at(other));
        return at(sketch).estimate();
    }

    long fold(int sketch) {
        if (no(sketch)) return Due.NO_SUCH;
        if (at(sketch).bits == 2) return Due.NOT_POSSIBLE;
        record();
        at(sketch).fold();
        return at(sketch).buckets();
    }

    long empty(int sketch) {
        if (no(sketch)) return Due.NO_SUCH;
        record();
        int filled = at(sketch).ranks.size();
        at(sketch).empty();
        return filled;
    }

    long thing(int sketch, int thing, int what) {
        if (no(sketch)) return Due.NO_SUCH;
        if (!within(thing, 0, 99999) || !within(what, 0, 3)) return Due.BAD_VALUE;
        Sketch s = at(sketch);
        long[] answers = {Due.hash(thing, now.salt), s.bucketOf(thing, now.salt), s.rankOf(thing, now.salt),
            s.copy().take(thing, now.salt) ? 1 : 0};
        return answers[what];
    }

    long bucket(int sketch, int bucket) {
        if (no(sketch) || !within(bucket, 0, at(sketch).buckets() - 1)) return Due.NO_SUCH;
        return at(sketch).rank(bucket);
    }

    long ofSketch(int sketch, int what) {
        if (no(sketch)) return Due.NO_SUCH;
        if (!within(what, 0, 8)) return Due.BAD_VALUE;
        Sketch s = at(sketch);
        long greatest = s.ranks.values().stream().mapToInt(rank -> rank).max().orElse(0);
        long[] answers = {s.bits, s.buckets(), s.buckets() - s.ranks.size(), greatest, s.sum(), s.raw(),
            s.estimate(), s.told(), s.list == null ? Due.NONE : s.list.size()};
        return answers[what];
    }

    long withRank(int sketch, int rank) {
        if (no(sketch)) return -1;
        if (!within(rank, 0, 15)) return -2;
        long set = 0;
        for (int bucket = at(sketch).buckets() - 1; bucket >= 0; bucket--) {
            set = 2 * set + (at(sketch).rank(bucket) == rank ? 1 : 0);
        }
        return set;
    }

    long listed(int sketch, int place) {
        if (no(sketch) || at(sketch).list == null || !within(place, 0, at(sketch).list.size() - 1)) {
            return Due.NO_SUCH;
        }
        return new ArrayList<>(at(sketch).list).get(place);
    }

    long count(int what) {
        if (!within(what, 0, 5)) return Due.BAD_VALUE;
        long[] answers = {now.salt, now.sketches.stream().filter(s -> !s.ranks.isEmpty()).count(), now.filled(),
            now.sketches.stream().filter(s -> s.list == null).count(), pad.length(), history.size()};
        return answers[what];
    }

    long together(int one, int other) {
        if (no(one) || no(other)) return Due.NO_SUCH;
        if (unlike(one, other)) return Due.NOT_POSSIBLE;
        Sketch both = at(one).copy();
        both.join(at(other));
        return both.estimate();
    }

    long alike(int one, int other) {
        if (no(one) || no(other)) return Due.NO_SUCH;
        if (unlike(one, other)) return Due.NOT_POSSIBLE;
        float same = 0;
        for (int bucket = 0; bucket < at(one).buckets(); bucket++) {
            same += at(one).rank(bucket) == at(other).rank(bucket) ? 1 : 0;
        }
        return Float.floatToIntBits(same / (float) at(one).buckets());
    }

    long off(int sketch) {
        if (no(sketch)) return Due.NO_SUCH;
        if (at(sketch).list == null) return Due.NOT_POSSIBLE;
        return 100000 + at(sketch).estimate() - at(sketch).list.size();
    }

    long nextNew(int sketch, int from) {
        if (no(sketch)) return Due.NO_SUCH;
        if (!within(from, 0, 99999)) return Due.BAD_VALUE;
        Sketch s = at(sketch);
        for (int thing = from; thing <= 99999; thing++) {
            if (s.rank(s.bucketOf(thing, now.salt)) < s.rankOf(thing, now.salt)) return thing;
        }
        return Due.NONE;
    }

    long bestSalt(int sketch) {
        if (no(sketch)) return Due.NO_SUCH;
        if (at(sketch).list == null) return Due.NOT_POSSIBLE;
        TreeMap<Long, Integer> leastByDistance = new TreeMap<>();
        for (int salt = 0; salt < 256; salt++) {
            Sketch tried = new Sketch();
            tried.bits = at(sketch).bits;
            for (int thing : at(sketch).list) {
                tried.take(thing, salt);
            }
            leastByDistance.putIfAbsent(Math.abs(tried.estimate() - at(sketch).list.size()), salt);
        }
        return leastByDistance.firstEntry().getValue();
    }

    long put(long characters) {
        StringBuilder text = new StringBuilder();
        boolean ended = false;
        for (int shift = 0; shift < 64; shift += 8) {
            int code = (int) (characters >> shift & 0xFF);
            if (code != 0 && (ended || !within(code, 33, 126))) return Due.BAD_VALUE;
            ended |= code == 0;
            if (!ended) text.insert(0, (char) code);
        }
        if (text.length() == 0) return Due.BAD_VALUE;
        if (pad.length() + text.length() > 80) return Due.TOO_MANY;
        pad += text;
        return pad.length();
    }

    long wipe() {
        int length = pad.length();
        pad = "";
        return length;
    }

    long fault() {
        if (TEXT.matcher(pad).matches()) return Due.NONE;
        for (int length = 1; length <= pad.length(); length++) {
            Matcher start = TEXT.matcher(pad.substring(0, length));
            if (!start.matches() && !start.hitEnd()) return length - 1;
        }
        return pad.length();
    }

    long carryOut() {
        if (fault() != Due.NONE) return Due.BAD_TEXT;
        record();
        String text = pad;
        pad = "";
        long done = 0;
        for (String order : text.split(";")) {
            if (!carriedOut(order)) return done;
            done++;
        }
        return done;
    }

    private boolean carriedOut(String order) {
        int sketch = order.charAt(0) - '0';
        String[] rest = order.substring(2).split("[,+]");
        switch (order.charAt(1)) {
            case ':':
                for (String number : rest) {
                    at(sketch).take(Integer.parseInt(number), now.salt);
                }
                return true;
            case '&':
                int other = Integer.parseInt(rest[0]);
                if (other == sketch || unlike(sketch, other)) return false;
                at(sketch).join(at(other));
                return true;
            case '*':
                if (!range(Integer.parseInt(rest[0]), Integer.parseInt(rest[1]))) return false;
                rangeInto(sketch, Integer.parseInt(rest[0]), Integer.parseInt(rest[1]));
                return true;
            case '/':
                if (at(sketch).bits == 2) return false;
                at(sketch).fold();
                return true;
            default:
                at(sketch).empty();
                return true;
        }
    }

    long undo() {
        if (history.isEmpty()) return Due.NOT_POSSIBLE;
        now = history.removeLast();
        return history.size();
    }

    long save(int slot) {
        if (!within(slot, 0, 1)) return Due.BAD_VALUE;
        slots[slot] = now.copy();
        return now.filled();
    }

    long restore(int slot) {
        if (!within(slot, 0, 1)) return Due.BAD_VALUE;
        if (slots[slot] == null) return Due.NOT_POSSIBLE;
        record();
        now = slots[slot].copy();
        return now.filled();
    }

    /** As Due.contents() tells them of an object. */
    String contents() {
        StringBuilder text = new StringBuilder();
        for (int what = 0; what <= 3; what++) {
            text.append(count(what)).append(' ');
        }
        for (int sketch = 0; sketch < 6; sketch++) {
            text.append("| ").append(at(sketch).bits).append(" ranks");
            for (int rank = 0; rank <= 15; rank++) {
                text.append(' ').append(Long.toHexString(withRank(sketch, rank)));
            }
            text.append(" list ").append(ofSketch(sketch, 8)).append(':');
            for (int thing : at(sketch).list == null ? List.<Integer>of() : at(sketch).list) {
                text.append(' ').append(thing);
            }
            text.append(' ');
        }
        return text.toString();
    }
}
