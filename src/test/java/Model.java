import java.time.DateTimeException;
import java.time.LocalDate;
import java.time.temporal.ChronoUnit;
import java.util.ArrayDeque;
import java.util.ArrayList;
import java.util.Arrays;
import java.util.Deque;
import java.util.HashMap;
import java.util.List;
import java.util.Map;
import java.util.TreeMap;
import java.util.regex.Matcher;
import java.util.regex.Pattern;

/** The document told a second time, by trying everything out and with the Java library: slow, but plain. */
final class Model {
    static final int NONE = -1;

    record Stone(String code, int kind, int size, int weight, int value, int drawer, int light) {
        Stone inDrawer(int other) {
            return new Stone(code, kind, size, weight, value, other, light);
        }

        Stone withLight(int other) {
            return new Stone(code, kind, size, weight, value, drawer, other);
        }
    }

    record Told(int stone, LocalDate day, int hand, int since, int until) { }

    record Show(int stone, LocalDate day, int days, int light) { }

    record Offer(int museum, int gives, int wants) { }

    record Snapshot(List<Stone> stones, List<List<Integer>> scratches, List<List<Integer>> drawers,
            List<List<Integer>> parted, List<Told> told, List<Show> shows, List<Offer> offers, int time) { }

    private List<Stone> stones = List.of();
    private List<List<Integer>> scratches = List.of();
    private List<List<Integer>> drawers = List.of(List.of(20, 200), List.of(20, 200), List.of(20, 200), List.of(20, 200));
    private List<List<Integer>> parted = List.of();
    private List<Told> told = List.of();
    private List<Show> shows = List.of();
    private List<Offer> offers = List.of();
    private int time = 0;

    private final Deque<Snapshot> kept = new ArrayDeque<>();
    private final StringBuilder tape = new StringBuilder();
    private int error = NONE;
    private String written = "";

    private void keep() {
        kept.addLast(new Snapshot(stones, scratches, drawers, parted, told, shows, offers, time));
        if (kept.size() > 15) {
            kept.removeFirst();
        }
    }

    private static <T> List<T> with(List<T> list, T more) {
        List<T> copy = new ArrayList<>(list);
        copy.add(more);
        return copy;
    }

    private static <T> List<T> withAt(List<T> list, int index, T other) {
        List<T> copy = new ArrayList<>(list);
        copy.set(index, other);
        return copy;
    }

    private void index(boolean isThere) {
        if (!isThere) {
            throw new IndexOutOfBoundsException();
        }
    }

    private void argument(boolean isGood) {
        if (!isGood) {
            throw new IllegalArgumentException();
        }
    }

    private void legal(boolean isGood) {
        if (!isGood) {
            throw new IllegalStateException();
        }
    }

    private boolean isStone(int stone) {
        return 0 <= stone && stone < stones.size();
    }

    private static boolean in(int number, int least, int most) {
        return least <= number && number <= most;
    }

    // ---- The tape, stones.

    int append(int a, int b, int c, int d, int e) {
        StringBuilder more = new StringBuilder();
        for (int four : new int[] {a, b, c, d, e}) {
            for (int sign : new int[] {four >>> 24, four >>> 16 & 255, four >>> 8 & 255, four & 255}) {
                if (sign != 0) {
                    more.append((char) sign);
                }
            }
        }
        legal(tape.length() + more.length() <= 300);
        tape.append(more);
        return tape.length();
    }

    int clearTape() {
        int before = tape.length();
        tape.setLength(0);
        return before;
    }

    int errorPosition() {
        return error;
    }

    int stone(int kind, int size, int weight, int value) {
        String text = tape.toString();
        tape.setLength(0);
        error = NONE;
        argument(in(kind, 0, 5) && in(size, 1, 9) && in(weight, 1, 99) && in(value, 0, 10000));
        Matcher letters = Pattern.compile("[a-z]{0,4}").matcher(text);
        letters.lookingAt();
        if (text.isEmpty() || letters.end() < text.length()) {
            error = letters.end();
            throw new IllegalArgumentException();
        }
        if (numberOf(text) != NONE) {
            error = 0;
            throw new IllegalArgumentException();
        }
        legal(stones.size() < 10);
        keep();
        stones = with(stones, new Stone(text, kind, size, weight, value, NONE, 5000));
        return stones.size() - 1;
    }

    private int numberOf(String code) {
        for (int i = 0; i < stones.size(); i++) {
            if (stones.get(i).code.equals(code)) {
                return i;
            }
        }
        return NONE;
    }

    int stones() {
        return stones.size();
    }

    int stoneOf(int stone, int what) {
        index(isStone(stone));
        argument(in(what, 0, 5));
        Stone it = stones.get(stone);
        int place = (int) stones.stream().filter(s -> s.code.compareTo(it.code) < 0).count();
        return new int[] {it.kind, it.size, it.weight, it.value, it.drawer, place}[what];
    }

    // ---- Scratches.

    int scratch(int one, int other) {
        index(isStone(one) && isStone(other));
        argument(one != other);
        legal(scratches.size() < 40);
        keep();
        scratches = with(scratches, List.of(one, other));
        return scratches.size() - 1;
    }

    int unscratch(int number) {
        index(in(number, 0, scratches.size() - 1));
        keep();
        scratches = new ArrayList<>(scratches);
        scratches.remove(number);
        return scratches.size();
    }

    private List<Integer> ringFound() {
        for (int length = 2; length <= stones.size(); length++) {
            for (int start = 0; start < stones.size(); start++) {
                List<Integer> found = ringFrom(new ArrayList<>(List.of(start)), length);
                if (found != null) {
                    return found;
                }
            }
        }
        return List.of();
    }

    private List<Integer> ringFrom(List<Integer> row, int length) {
        int last = row.get(row.size() - 1);
        if (row.size() == length) {
            return scratches.contains(List.of(last, row.get(0))) ? row : null;
        }
        for (int next = row.get(0) + 1; next < stones.size(); next++) {
            if (!row.contains(next) && scratches.contains(List.of(last, next))) {
                List<Integer> found = ringFrom(with(row, next), length);
                if (found != null) {
                    return found;
                }
            }
        }
        return null;
    }

    int ring() {
        return ringFound().size();
    }

    int ringAt(int place) {
        List<Integer> found = ringFound();
        index(in(place, 0, found.size() - 1));
        return found.get(place);
    }

    private static final class Counts {
        int all = 0;
        int[] first = null;
        final int[][] ofRank = new int[10][10];
        final int[][] ahead = new int[10][10];
    }

    private final Map<String, Counts> counted = new HashMap<>();

    private Counts counts() {
        return counted.computeIfAbsent(stones.size() + " " + scratches, key -> {
            Counts counts = new Counts();
            boolean[][] told = new boolean[10][10];
            for (List<Integer> pair : scratches) {
                told[pair.get(0)][pair.get(1)] = true;
            }
            tryOrders(new int[stones.size()], 0, 0, told, counts);
            return counts;
        });
    }

    private void tryOrders(int[] order, int place, int placed, boolean[][] told, Counts counts) {
        if (place == order.length) {
            counts.all++;
            if (counts.first == null) {
                counts.first = order.clone();
            }
            for (int i = 0; i < order.length; i++) {
                counts.ofRank[order[i]][i]++;
                for (int j = i + 1; j < order.length; j++) {
                    counts.ahead[order[i]][order[j]]++;
                }
            }
            return;
        }
        for (int next = 0; next < order.length; next++) {
            boolean isFree = (placed >> next & 1) == 0;
            for (int other = 0; other < order.length && isFree; other++) {
                isFree = !told[other][next] || (placed >> other & 1) != 0;
            }
            if (isFree) {
                order[place] = next;
                tryOrders(order, place + 1, placed | 1 << next, told, counts);
            }
        }
    }

    int orders() {
        return counts().all;
    }

    int rank(int stone, boolean isGreatest) {
        index(isStone(stone));
        int[] row = counts().ofRank[stone];
        int found = NONE;
        for (int rank = 0; rank < 10; rank++) {
            if (row[rank] > 0 && (found == NONE || isGreatest)) {
                found = rank;
            }
        }
        return found;
    }

    int withRank(int stone, int rank) {
        index(isStone(stone));
        argument(in(rank, 0, 9));
        return counts().ofRank[stone][rank];
    }

    int harder(int one, int other) {
        index(isStone(one) && isStone(other));
        argument(one != other);
        return counts().ahead[one][other];
    }

    int shareOf(int one, int other, boolean isUnder) {
        index(isStone(one) && isStone(other));
        argument(one != other);
        Counts counts = counts();
        if (counts.all == 0) {
            return isUnder ? 1 : 0;
        }
        int over = counts.ahead[one][other];
        int under = counts.all;
        for (int d = under; d > 1; d--) {
            if (over % d == 0 && under % d == 0) {
                over /= d;
                under /= d;
            }
        }
        return isUnder ? under : over;
    }

    int nextTest(boolean isWorth) {
        Counts counts = counts();
        if (stones.size() < 2 || counts.all == 0) {
            return NONE;
        }
        int least = Integer.MAX_VALUE;
        int test = NONE;
        for (int a = 0; a < stones.size(); a++) {
            for (int b = a + 1; b < stones.size(); b++) {
                int worth = Math.max(counts.ahead[a][b], counts.ahead[b][a]);
                if (worth < least) {
                    least = worth;
                    test = 10 * a + b;
                }
            }
        }
        return isWorth ? least : test;
    }

    int orderAt(int rank) {
        index(in(rank, 0, stones.size() - 1) && counts().all > 0);
        return counts().first[rank];
    }

    // ---- Drawers.

    private int whyNot(List<Stone> all, int drawer) {
        List<Stone> inside = all.stream().filter(s -> s.drawer == drawer).toList();
        if (inside.stream().mapToInt(Stone::size).sum() > drawers.get(drawer).get(0)) {
            return 1;
        }
        if (inside.stream().mapToInt(Stone::weight).sum() > drawers.get(drawer).get(1)) {
            return 2;
        }
        for (int i = 0; i < inside.size(); i++) {
            for (int j = 0; j < i; j++) {
                int a = inside.get(i).kind;
                int b = inside.get(j).kind;
                if (parted.contains(List.of(Math.min(a, b), Math.max(a, b)))) {
                    return 3;
                }
            }
        }
        return 0;
    }

    int setDrawer(int drawer, int size, int weight) {
        argument(in(drawer, 0, 3) && in(size, 0, 99) && in(weight, 0, 999));
        legal(lies(drawer, 1) <= size && lies(drawer, 2) <= weight);
        keep();
        int before = drawers.get(drawer).get(0);
        drawers = withAt(drawers, drawer, List.of(size, weight));
        return before;
    }

    boolean part(int one, int other, boolean arePartedNow) {
        argument(in(one, 0, 5) && in(other, 0, 5));
        List<Integer> pair = List.of(Math.min(one, other), Math.max(one, other));
        List<List<Integer>> before = parted;
        List<List<Integer>> after = new ArrayList<>(before);
        after.remove(pair);
        if (arePartedNow) {
            after.add(pair);
        }
        parted = after;
        boolean areGood = in4(stones);
        parted = before;
        legal(areGood);
        keep();
        parted = after;
        return before.contains(pair);
    }

    private boolean in4(List<Stone> all) {
        return whyNot(all, 0) == 0 && whyNot(all, 1) == 0 && whyNot(all, 2) == 0 && whyNot(all, 3) == 0;
    }

    int lay(int stone, int drawer) {
        index(isStone(stone));
        argument(in(drawer, -1, 3));
        keep();
        List<Stone> after = withAt(stones, stone, stones.get(stone).inDrawer(drawer));
        int why = drawer == NONE ? 0 : whyNot(after, drawer);
        if (why == 0) {
            stones = after;
        }
        return why;
    }

    int lies(int drawer, int what) {
        argument(in(drawer, 0, 3) && in(what, 0, 2));
        return stones.stream().filter(s -> s.drawer == drawer)
                .mapToInt(s -> what == 0 ? 1 : what == 1 ? s.size : s.weight).sum();
    }

    private List<Stone> bestLaying;
    private int bestMoved;

    private void tryLayings(List<Stone> row, int moved, boolean isNearest) {
        if (bestLaying != null && (!isNearest || moved >= bestMoved)) {
            return;
        }
        if (row.size() == stones.size()) {
            bestLaying = row;
            bestMoved = moved;
            return;
        }
        Stone next = stones.get(row.size());
        for (int drawer = 0; drawer < 4; drawer++) {
            List<Stone> more = with(row, next.inDrawer(drawer));
            if (whyNot(more, drawer) == 0) {
                tryLayings(more, moved + (next.drawer != NONE && next.drawer != drawer ? 1 : 0), isNearest);
            }
        }
    }

    int layAll(boolean isNearest) {
        keep();
        bestLaying = null;
        tryLayings(List.of(), 0, isNearest);
        if (bestLaying == null) {
            return NONE;
        }
        stones = bestLaying;
        return bestMoved;
    }

    // ---- Hands.

    private static LocalDate dayOf(int date) {
        if (!in(date, 19000101, 21991231)) {
            return null;
        }
        try {
            return LocalDate.of(date / 10000, date / 100 % 100, date % 100);
        } catch (DateTimeException e) {
            return null;
        }
    }

    private static int dateOf(LocalDate day) {
        return 10000 * day.getYear() + 100 * day.getMonthValue() + day.getDayOfMonth();
    }

    int tell(int stone, int date, int hand) {
        index(isStone(stone));
        argument(dayOf(date) != null && in(hand, 0, 6));
        legal(told.size() < 60);
        keep();
        time++;
        told = with(told, new Told(stone, dayOf(date), hand, time, Integer.MAX_VALUE));
        return told.size() - 1;
    }

    int takeBack(int number) {
        index(in(number, 0, told.size() - 1));
        Told it = told.get(number);
        legal(it.until == Integer.MAX_VALUE);
        keep();
        time++;
        told = withAt(told, number, new Told(it.stone, it.day, it.hand, it.since, time));
        return time;
    }

    int time() {
        return time;
    }

    private TreeMap<LocalDate, Integer> handsOf(int stone, int asOf) {
        TreeMap<LocalDate, Integer> hands = new TreeMap<>();
        for (Told it : told) {
            if (it.stone == stone && it.since <= asOf && it.until > asOf) {
                hands.put(it.day, it.hand);
            }
        }
        return hands;
    }

    private int handOn(int stone, LocalDate day, int asOf) {
        Map.Entry<LocalDate, Integer> entry = handsOf(stone, asOf).floorEntry(day);
        return entry == null ? 6 : entry.getValue();
    }

    int handOn(int stone, int date, int asOf) {
        index(isStone(stone));
        argument(dayOf(date) != null && in(asOf, 0, time));
        return handOn(stone, dayOf(date), asOf);
    }

    /** The days on which another hand begins. */
    private List<LocalDate> beginnings(int stone, int asOf) {
        List<LocalDate> days = new ArrayList<>();
        for (LocalDate day : handsOf(stone, asOf).keySet()) {
            if (handOn(stone, day, asOf) != handOn(stone, day.minusDays(1), asOf)) {
                days.add(day);
            }
        }
        return days;
    }

    int stays(int stone, int asOf) {
        index(isStone(stone));
        argument(in(asOf, 0, time));
        return 1 + beginnings(stone, asOf).size();
    }

    int stayAt(int stone, int stay, int what) {
        index(isStone(stone));
        List<LocalDate> days = beginnings(stone, time);
        index(in(stay, 0, days.size()));
        argument(in(what, 0, 2));
        if (what == 0) {
            return stay == 0 ? 6 : handOn(stone, days.get(stay - 1), time);
        }
        if (what == 1) {
            return stay == 0 ? NONE : dateOf(days.get(stay - 1));
        }
        return stay == days.size() ? NONE : dateOf(days.get(stay).minusDays(1));
    }

    int away(int stone, int from, int to) {
        index(isStone(stone));
        argument(dayOf(from) != null && dayOf(to) != null && from <= to);
        TreeMap<LocalDate, Integer> hands = handsOf(stone, time);
        int days = 0;
        for (LocalDate day = dayOf(from); !day.isAfter(dayOf(to)); day = day.plusDays(1)) {
            Map.Entry<LocalDate, Integer> entry = hands.floorEntry(day);
            days += entry == null || entry.getValue() != 0 ? 1 : 0;
        }
        return days;
    }

    long fee(int stone, int from, int to) {
        index(isStone(stone));
        argument(dayOf(from) != null && dayOf(to) != null && from <= to);
        TreeMap<LocalDate, Integer> hands = handsOf(stone, time);
        long sum = 0;
        for (LocalDate day = dayOf(from); !day.isAfter(dayOf(to)); day = day.plusDays(1)) {
            Map.Entry<LocalDate, Integer> entry = hands.floorEntry(day);
            int hand = entry == null ? 6 : entry.getValue();
            sum += (long) stones.get(stone).value * (hand == 6 ? 0 : hand);
        }
        return sum / 1000;
    }

    int inHand(int hand, int date) {
        argument(in(hand, 0, 6) && dayOf(date) != null);
        int count = 0;
        for (int stone = 0; stone < stones.size(); stone++) {
            count += handOn(stone, dayOf(date), time) == hand ? 1 : 0;
        }
        return count;
    }

    // ---- Light.

    private TreeMap<Integer, Integer> lightOf(int stone, List<Show> all) {
        TreeMap<Integer, Integer> years = new TreeMap<>();
        for (Show it : all) {
            for (int i = 0; i < it.days && it.stone == stone; i++) {
                years.merge(it.day.plusDays(i).getYear(), it.light, Integer::sum);
            }
        }
        return years;
    }

    private boolean isUnder(int stone, List<Show> all, int most) {
        return lightOf(stone, all).values().stream().allMatch(light -> light <= most);
    }

    int setLight(int stone, int light) {
        index(isStone(stone));
        argument(in(light, 0, 100000));
        legal(isUnder(stone, shows, light));
        keep();
        int before = stones.get(stone).light;
        stones = withAt(stones, stone, stones.get(stone).withLight(light));
        return before;
    }

    int show(int stone, int date, int days, int light) {
        index(isStone(stone));
        argument(dayOf(date) != null && in(days, 1, 400) && in(light, 1, 1000));
        argument(dayOf(date).plusDays(days - 1).getYear() <= 2199);
        legal(shows.size() < 20);
        List<Show> after = with(shows, new Show(stone, dayOf(date), days, light));
        legal(isUnder(stone, after, stones.get(stone).light));
        keep();
        shows = after;
        return shows.size() - 1;
    }

    int light(int stone, int year) {
        index(isStone(stone));
        argument(in(year, 1900, 2199));
        return lightOf(stone, shows).getOrDefault(year, 0);
    }

    int mostDays(int stone, int date, int light) {
        index(isStone(stone));
        argument(dayOf(date) != null && in(light, 1, 1000));
        TreeMap<Integer, Integer> years = lightOf(stone, shows);
        int days = 0;
        while (days < 400 && ChronoUnit.DAYS.between(dayOf(date), LocalDate.of(2200, 1, 1)) > days
                && years.merge(dayOf(date).plusDays(days).getYear(), light, Integer::sum) <= stones.get(stone).light) {
            days++;
        }
        return days;
    }

    // ---- Exchanges.

    int offer(int museum, int gives, int wants) {
        argument(in(museum, 0, 4) && in(gives, 0, 5) && in(wants, 0, 5) && gives != wants);
        legal(offers.size() < 8);
        keep();
        offers = with(offers, new Offer(museum, gives, wants));
        return offers.size() - 1;
    }

    int clearOffers() {
        keep();
        int before = offers.size();
        offers = List.of();
        return before;
    }

    private int[] bestPlan;
    private int bestCount;

    private int[] best() {
        bestPlan = null;
        bestCount = -1;
        tryPlans(new int[offers.size()], 0, 0, 0, 0);
        return bestPlan;
    }

    /** Plans are tried from the first one on, so that a later one must have more offers. */
    private void tryPlans(int[] row, int offer, int takers, int givers, int count) {
        if (offer == row.length) {
            if (takers == givers && count > bestCount) {
                bestPlan = row.clone();
                bestCount = count;
            }
            return;
        }
        for (int giver = 0; giver < row.length; giver++) {
            boolean isFree = (givers >> giver & 1) == 0 && (giver >= offer || (takers >> giver & 1) != 0);
            if (isFree && offers.get(giver).museum != offers.get(offer).museum
                    && offers.get(giver).gives == offers.get(offer).wants) {
                row[offer] = giver;
                tryPlans(row, offer + 1, takers | 1 << offer, givers | 1 << giver, count + 1);
            }
        }
        if ((givers >> offer & 1) == 0) {
            row[offer] = NONE;
            tryPlans(row, offer + 1, takers, givers, count);
        }
    }

    int plan() {
        return (int) Arrays.stream(best()).filter(giver -> giver != NONE).count();
    }

    int getsFrom(int offer) {
        index(in(offer, 0, offers.size() - 1));
        return best()[offer];
    }

    int rings() {
        int[] plan = best();
        boolean[] wasSeen = new boolean[plan.length];
        int count = 0;
        for (int offer = 0; offer < plan.length; offer++) {
            if (plan[offer] != NONE && !wasSeen[offer]) {
                count++;
            }
            for (int next = offer; plan[next] != NONE && !wasSeen[next]; next = plan[next]) {
                wasSeen[next] = true;
            }
        }
        return count;
    }

    // ---- Catalogues.

    private static final Pattern TOKEN = Pattern.compile("[ \n]*(?:([a-z]+)|([0-9]+)|(;)|(.))?", Pattern.DOTALL);
    private static final int[][] RANGES = {{0, 5}, {1, 9}, {1, 99}, {0, 10000}};

    /** The entries of a text, by code; null if it has an error, which is told then. */
    private TreeMap<String, int[]> entriesOf(String text) {
        TreeMap<String, int[]> entries = new TreeMap<>();
        Matcher matcher = TOKEN.matcher(text);
        int[] latest = null;
        int place = 0;
        int at = 0;
        error = NONE;
        while (true) {
            matcher.find(at);
            at = matcher.end();
            String word = matcher.group(1);
            String number = matcher.group(2);
            if (word == null && number == null && matcher.group(3) == null && matcher.group(4) == null) {
                error = place == 0 ? NONE : text.length();
                return place == 0 ? entries : null;
            }
            boolean isGood;
            int start = matcher.start(word != null ? 1 : number != null ? 2 : matcher.group(3) != null ? 3 : 4);
            if (place == 0) {
                isGood = word != null && word.length() <= 4 && !entries.containsKey(word);
                latest = new int[4];
                if (isGood) {
                    entries.put(word, latest);
                }
            } else if (place < 5) {
                isGood = number != null && number.length() <= 5
                        && in(Integer.parseInt(number), RANGES[place - 1][0], RANGES[place - 1][1]);
                if (isGood) {
                    latest[place - 1] = Integer.parseInt(number);
                }
            } else {
                isGood = matcher.group(3) != null;
            }
            if (!isGood) {
                error = start;
                return null;
            }
            place = (place + 1) % 6;
        }
    }

    int join() {
        String text = tape.toString();
        tape.setLength(0);
        TreeMap<String, int[]> entries = entriesOf(text);
        argument(entries != null);
        List<Stone> after = stones;
        for (Map.Entry<String, int[]> entry : entries.entrySet()) {
            int[] e = entry.getValue();
            int number = numberOf(entry.getKey());
            if (number == NONE) {
                after = with(after, new Stone(entry.getKey(), e[0], e[1], e[2], e[3], NONE, 5000));
            } else {
                Stone s = stones.get(number);
                after = withAt(after, number, new Stone(s.code, Math.max(s.kind, e[0]), Math.max(s.size, e[1]),
                        Math.max(s.weight, e[2]), Math.max(s.value, e[3]), s.drawer, s.light));
            }
        }
        legal(after.size() <= 10 && in4(after));
        keep();
        int came = after.size() - stones.size();
        stones = after;
        return came;
    }

    int write() {
        StringBuilder out = new StringBuilder();
        stones.stream().sorted((a, b) -> a.code.compareTo(b.code)).forEach(s -> out.append(s.code).append(' ')
                .append(s.kind).append(' ').append(s.size).append(' ').append(s.weight).append(' ').append(s.value)
                .append(';'));
        written = out.toString();
        return written.length();
    }

    char writtenAt(int index) {
        index(in(index, 0, written.length() - 1));
        return written.charAt(index);
    }

    // ---- Undo, figures, second ways.

    int undo() {
        if (kept.isEmpty()) {
            return NONE;
        }
        Snapshot it = kept.removeLast();
        stones = it.stones;
        scratches = it.scratches;
        drawers = it.drawers;
        parted = it.parted;
        told = it.told;
        shows = it.shows;
        offers = it.offers;
        time = it.time;
        return kept.size();
    }

    int checksum() {
        int sum = 17;
        for (Stone s : stones) {
            sum = 31 * sum + s.kind + s.size + s.weight + s.value + s.drawer;
        }
        return sum;
    }

    double meanValue() {
        return stones.isEmpty() ? 0.0 : (double) stones.stream().mapToInt(Stone::value).sum() / (double) stones.size();
    }

    float laidShare() {
        return stones.isEmpty() ? 0.0f
                : (float) stones.stream().filter(s -> s.drawer != NONE).count() / (float) stones.size();
    }

    int errors() {
        return 0;
    }
}
