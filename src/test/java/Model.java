import java.math.BigInteger;
import java.util.ArrayList;
import java.util.Arrays;
import java.util.List;
import java.util.TreeSet;

/**
 * The document's words once more, as plainly as they go and in no way like the class: for runs of
 * calls to which nobody has written down the answers.
 */
final class Model {
    private static final int UNKNOWN = -1, OUTSIDE = -2, STATE = -3, FULL = -4, NONE = -9;
    private static final long LOST = Long.MIN_VALUE;

    record Person(char letter, int loses, int ear) {
        int kind() {
            return "sct".indexOf(letter);
        }

        int dares() {
            return kind() == 0 ? loses : kind() == 1 ? loses + 1 : 2 * (loses + 1);
        }
    }

    record Word(int place, int day) { }

    record Whisper(int a, int b) { }

    record Reading(int person, int day, boolean had) { }

    private final Object[] sheets = new Object[4];
    private List<Person> persons = List.of();
    private List<Word> words = new ArrayList<>();
    private List<Whisper> whispers = new ArrayList<>();
    private List<Reading> readings = new ArrayList<>();
    private TreeSet<Integer> bribed = new TreeSet<>();
    private int trace;
    private int fault;

    // ---- faults come as the machine's own

    private int faulted(int number) {
        fault = number;
        return -10 - number;
    }

    private static int laneOf(Object row) {
        return row instanceof byte[] ? 0 : row instanceof short[] ? 1 : row instanceof int[] ? 2 : -1;
    }

    private static int lengthOf(Object row) {
        return java.lang.reflect.Array.getLength(row);
    }

    private static int valueOf(Object row, int i) {
        return java.lang.reflect.Array.getInt(row, i);
    }

    private int taking(Object row, int lane, int i, int n) {
        if (row != null && laneOf(row) != lane) {
            return 2;
        }
        if (row == null) {
            return 1;
        }
        if (n < 0) {
            return 4;
        }
        long end = (long) i + n;
        return i < 0 || i > lengthOf(row) || end > lengthOf(row) ? 3 : 0;
    }

    private static boolean no(int k, int count) {
        return k < 0 || k >= count;
    }

    // ---- the street

    int street(int sheet, int lane, int i, int n) {
        fault = 0;
        if (no(sheet, 4)) {
            return UNKNOWN;
        }
        if (no(lane, 3)) {
            return OUTSIDE;
        }
        int f = taking(sheets[sheet], lane, i, n);
        if (f != 0) {
            return faulted(f);
        }
        StringBuilder text = new StringBuilder();
        for (int k = 0; k < n; k++) {
            int code = valueOf(sheets[sheet], i + k);
            text.append(code >= 0 && code < 128 ? (char) code : '?');
        }
        String whole = text.toString();
        if (!whole.matches("n(;[sct][0-5][0-6]){2,7}")) {
            int good = 0;
            while (good < n && begins(whole.substring(0, good + 1))) {
                good++;
            }
            return -100 - good;
        }
        persons = new ArrayList<>();
        for (String part : whole.substring(2).split(";")) {
            persons.add(new Person(part.charAt(0), part.charAt(1) - '0', part.charAt(2) - '0'));
        }
        words = new ArrayList<>();
        whispers = new ArrayList<>();
        readings = new ArrayList<>();
        bribed = new TreeSet<>();
        return persons.size();
    }

    /** Whether some text begins so. */
    private static boolean begins(String start) {
        String last = "(;([sct]([0-5][0-6]?)?)?)?";
        return start.matches("n(;[sct][0-5][0-6]){0,6}" + last);
    }

    int ofPerson(int p, int what) {
        if (no(p, persons.size())) {
            return UNKNOWN;
        }
        Person one = persons.get(p);
        int[] all = {one.kind(), one.loses(), one.ear(), one.dares(), bribed.contains(p) ? 1 : 0};
        return no(what, 5) ? OUTSIDE : all[what];
    }

    int word(int place, int day) {
        if (no(place, persons.size())) {
            return UNKNOWN;
        }
        if (no(day, 40)) {
            return OUTSIDE;
        }
        return added(words, new Word(place, day), 6);
    }

    private static <T> int added(List<T> list, T one, int most) {
        if (list.size() == most) {
            return FULL;
        }
        list.add(one);
        return list.size() - 1;
    }

    private static <T> int removed(List<T> list, int k) {
        if (k < 0 || k > list.size()) {
            return OUTSIDE;
        }
        list.subList(list.size() - k, list.size()).clear();
        return list.size();
    }

    int unsay(int k) {
        return removed(words, k);
    }

    int bribe(int p, boolean is) {
        if (no(p, persons.size())) {
            return UNKNOWN;
        }
        return (is ? bribed.add(p) : bribed.remove(p)) ? 1 : 0;
    }

    int whisper(int a, int b) {
        if (no(a, persons.size()) || no(b, persons.size()) || a == b) {
            return UNKNOWN;
        }
        return added(whispers, new Whisper(a, b), 6);
    }

    int forget(int k) {
        return removed(whispers, k);
    }

    // ---- days: on which day each says it, 99 for never

    private int held(int p, int day, int[] saidOn, List<Word> fallen, List<Whisper> told) {
        int ear = persons.get(p).ear();
        int count = 0;
        for (int q = 0; q < persons.size(); q++) {
            count += Math.abs(p - q) <= ear && saidOn[q] < day ? 1 : 0;
        }
        for (Word w : fallen) {
            count += Math.abs(p - w.place()) <= ear && w.day() <= day ? 1 : 0;
        }
        for (Whisper w : told) {
            count += w.a() == p || w.b() == p ? 1 : 0;
        }
        return count;
    }

    private int[] saidOn(List<Word> fallen, List<Whisper> told, TreeSet<Integer> paid) {
        int[] on = new int[persons.size()];
        Arrays.fill(on, 99);
        for (int day = 0; day < 40; day++) {
            for (int p = 0; p < on.length; p++) {
                if (on[p] == 99 && !paid.contains(p) && held(p, day, on, fallen, told) >= persons.get(p).dares()) {
                    on[p] = day;
                }
            }
        }
        return on;
    }

    private int[] saidOn() {
        return saidOn(words, whispers, bribed);
    }

    private static int crowdOf(int[] on, int day) {
        int set = 0;
        for (int p = 0; p < on.length; p++) {
            set += on[p] <= day ? 1 << p : 0;
        }
        return set;
    }

    private static int countOf(int[] on) {
        return (int) Arrays.stream(on).filter(day -> day < 40).count();
    }

    int says(int p) {
        if (no(p, persons.size())) {
            return UNKNOWN;
        }
        int day = saidOn()[p];
        return day == 99 ? NONE : day;
    }

    int crowd(int day) {
        return no(day, 40) ? OUTSIDE : persons.isEmpty() ? STATE : crowdOf(saidOn(), day);
    }

    int heard(int p, int day, int what) {
        if (no(p, persons.size())) {
            return UNKNOWN;
        }
        if (no(day, 40) || no(what, 2)) {
            return OUTSIDE;
        }
        int[] on = saidOn();
        int set = 0;
        for (int q = 0; q < on.length; q++) {
            set += on[q] < day && Math.abs(p - q) <= persons.get(p).ear() ? 1 << q : 0;
        }
        return what == 0 ? set : held(p, day, on, words, whispers);
    }

    int silence() {
        return persons.isEmpty() ? STATE : countOf(saidOn()) == 0 ? 1 : 0;
    }

    int noticed() {
        if (persons.isEmpty()) {
            return STATE;
        }
        int[] on = saidOn();
        Arrays.sort(on);
        int day = on[(on.length + 1) / 2 - 1];
        return day == 99 ? NONE : day;
    }

    // ---- silence, words, bribes: all sets, the fewest first, then the least

    private List<Integer> setsByNumber() {
        List<Integer> sets = new ArrayList<>();
        for (int set = 0; set < 1 << persons.size(); set++) {
            sets.add(set);
        }
        sets.sort((a, b) -> Integer.bitCount(a) != Integer.bitCount(b)
                ? Integer.bitCount(a) - Integer.bitCount(b) : a - b);
        return sets;
    }

    private static TreeSet<Integer> members(int set) {
        TreeSet<Integer> all = new TreeSet<>();
        for (int k = 0; k < 7; k++) {
            if ((set & 1 << k) != 0) {
                all.add(k);
            }
        }
        return all;
    }

    private static <T> List<T> with(List<T> list, T one) {
        List<T> more = new ArrayList<>(list);
        more.add(one);
        return more;
    }

    private TreeSet<Integer> bribedWith(int set) {
        TreeSet<Integer> more = members(set);
        more.addAll(bribed);
        return more;
    }

    int fewest() {
        if (persons.isEmpty()) {
            return STATE;
        }
        for (int set : setsByNumber()) {
            List<Word> more = new ArrayList<>(words);
            for (int place : members(set)) {
                more.add(new Word(place, 0));
            }
            int[] on = saidOn(more, whispers, bribed);
            boolean all = true;
            for (int p = 0; p < on.length; p++) {
                all &= bribed.contains(p) || on[p] < 40;
            }
            if (all) {
                return set;
            }
        }
        return NONE;
    }

    int bribes(int p) {
        if (no(p, persons.size())) {
            return UNKNOWN;
        }
        for (int set : setsByNumber()) {
            if (!members(set).contains(p) && saidOn(words, whispers, bribedWith(set))[p] == 99) {
                return set;
            }
        }
        return NONE;
    }

    int whispers(int what) {
        if (no(what, 2)) {
            return OUTSIDE;
        }
        if (persons.isEmpty()) {
            return STATE;
        }
        int now = countOf(saidOn());
        int most = now;
        for (int a = 0; a < persons.size(); a++) {
            for (int b = a + 1; b < persons.size(); b++) {
                most = Math.max(most, countOf(saidOn(words, with(whispers, new Whisper(a, b)), bribed)));
            }
        }
        if (what == 1) {
            return most;
        }
        for (int a = 0; a < persons.size(); a++) {
            for (int b = a + 1; b < persons.size(); b++) {
                if (most > now && countOf(saidOn(words, with(whispers, new Whisper(a, b)), bribed)) == most) {
                    return 10 * a + b;
                }
            }
        }
        return NONE;
    }

    int worth(int k) {
        if (no(k, words.size())) {
            return UNKNOWN;
        }
        List<Word> rest = new ArrayList<>(words);
        rest.remove(k);
        return 100 + countOf(saidOn()) - countOf(saidOn(rest, whispers, bribed));
    }

    int asked(int sheet, int lane, int i, int n) {
        fault = 0;
        if (no(sheet, 4)) {
            return UNKNOWN;
        }
        if (no(lane, 3)) {
            return OUTSIDE;
        }
        if (persons.isEmpty()) {
            return STATE;
        }
        int f = taking(sheets[sheet], lane, i, n);
        if (f != 0) {
            return faulted(f);
        }
        if (n > 20) {
            return OUTSIDE;
        }
        List<Integer> row = new ArrayList<>();
        for (int k = 0; k < n; k++) {
            int p = valueOf(sheets[sheet], i + k);
            if (no(p, persons.size()) || row.contains(p)) {
                return UNKNOWN;
            }
            row.add(p);
        }
        return askedInTurn(row);
    }

    private int askedInTurn(List<Integer> row) {
        TreeSet<Integer> said = new TreeSet<>();
        for (int p : row) {
            int ear = persons.get(p).ear();
            long count = said.stream().filter(q -> Math.abs(q - p) <= ear).count()
                    + words.stream().filter(w -> w.day() == 0 && Math.abs(w.place() - p) <= ear).count()
                    + whispers.stream().filter(w -> w.a() == p || w.b() == p).count();
            if (count >= persons.get(p).dares() && !bribed.contains(p)) {
                said.add(p);
            }
        }
        return said.stream().mapToInt(p -> 1 << p).sum();
    }

    // ---- what was said

    int reading(int p, int day, boolean had) {
        if (no(p, persons.size())) {
            return UNKNOWN;
        }
        return no(day, 40) ? OUTSIDE : added(readings, new Reading(p, day, had), 8);
    }

    int back(int k) {
        return removed(readings, k);
    }

    private boolean allSo(int[] on) {
        return readings.stream().allMatch(r -> on[r.person()] <= r.day() == r.had());
    }

    int where(int day) {
        if (no(day, 40)) {
            return OUTSIDE;
        }
        if (persons.isEmpty()) {
            return STATE;
        }
        int set = 0;
        for (int place = 0; place < persons.size(); place++) {
            set += allSo(saidOn(with(words, new Word(place, day)), whispers, bribed)) ? 1 << place : 0;
        }
        return set;
    }

    int paid() {
        if (persons.isEmpty()) {
            return STATE;
        }
        int set = 0;
        for (int p = 0; p < persons.size(); p++) {
            set += allSo(saidOn(words, whispers, bribedWith(1 << p))) ? 1 << p : 0;
        }
        return set;
    }

    long odds(int p, int day, int which) {
        if (no(p, persons.size()) || no(day, 40) || no(which, 2)) {
            return LOST;
        }
        long upper = setsByNumber().stream().filter(set -> saidOn(words, whispers, members(set))[p] <= day).count();
        long lower = 1L << persons.size();
        long common = BigInteger.valueOf(upper).gcd(BigInteger.valueOf(lower)).longValue();
        return (which == 0 ? upper : lower) / common;
    }

    // ---- sheets, parts

    int sheet(int k, int lane, int n) {
        fault = 0;
        if (no(k, 4)) {
            return UNKNOWN;
        }
        if (no(lane, 3) || n > 60) {
            return OUTSIDE;
        }
        if (n < 0) {
            return faulted(4);
        }
        sheets[k] = lane == 0 ? new byte[n] : lane == 1 ? new short[n] : new int[n];
        return 1;
    }

    int lose(int k) {
        if (no(k, 4)) {
            return UNKNOWN;
        }
        int had = sheets[k] == null ? 0 : 1;
        sheets[k] = null;
        return had;
    }

    int put(int k, int i, int v) {
        fault = 0;
        if (no(k, 4)) {
            return UNKNOWN;
        }
        if (sheets[k] == null) {
            return faulted(1);
        }
        if (no(i, lengthOf(sheets[k]))) {
            return faulted(3);
        }
        if (sheets[k] instanceof byte[] bytes) {
            bytes[i] = (byte) v;
        } else if (sheets[k] instanceof short[] shorts) {
            shorts[i] = (short) v;
        } else {
            ((int[]) sheets[k])[i] = v;
        }
        return 1;
    }

    long cell(int k, int i, int lane) {
        fault = 0;
        if (no(k, 4) || no(lane, 3)) {
            return LOST;
        }
        if (sheets[k] == null) {
            fault = 1;
        } else if (laneOf(sheets[k]) != lane) {
            fault = 2;
        } else if (no(i, lengthOf(sheets[k]))) {
            fault = 3;
        }
        return fault != 0 ? LOST : valueOf(sheets[k], i);
    }

    int copy(int k, int i, int other, int j, int n) {
        fault = 0;
        if (no(k, 4) || no(other, 4)) {
            return UNKNOWN;
        }
        // What the machine itself throws tells the order.
        try {
            System.arraycopy(sheets[k], i, sheets[other], j, n);
        } catch (NullPointerException nothing) {
            return faulted(1);
        } catch (ArrayStoreException unlike) {
            return faulted(2);
        } catch (IndexOutOfBoundsException beyond) {
            return faulted(3);
        }
        return n;
    }

    private void leave(int... bodies) {
        for (int body : bodies) {
            trace = trace * 31 + body;
        }
    }

    int tell(int p) {
        if (no(p, persons.size())) {
            return UNKNOWN;
        }
        Person one = persons.get(p);
        switch (one.kind()) {
            case 0:
                leave(1);
                return one.loses();
            case 1:
                leave(2, 1);
                return one.loses() + 100;
            default:
                leave(3, 2, 1, 1);
                return one.loses() + 100 + one.loses();
        }
    }

    int bow(int p) {
        if (no(p, persons.size())) {
            return UNKNOWN;
        }
        boolean own = persons.get(p).kind() == 2;
        leave(own ? 5 : 4);
        return own ? 90 : p;
    }

    int as(int p, int kind) {
        fault = 0;
        if (no(p, persons.size())) {
            return UNKNOWN;
        }
        if (no(kind, 3)) {
            return OUTSIDE;
        }
        return persons.get(p).kind() < kind ? faulted(2) : 1;
    }

    int trace() {
        return trace;
    }

    int fault() {
        return fault;
    }

    int many(int what) {
        int[] all = {persons.size(), words.size(), whispers.size(), readings.size()};
        return no(what, 4) ? OUTSIDE : all[what];
    }
}
