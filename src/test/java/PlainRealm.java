import java.nio.ByteBuffer;
import java.nio.charset.StandardCharsets;
import java.util.ArrayList;
import java.util.Comparator;
import java.util.HashMap;
import java.util.List;
import java.util.Map;
import java.util.TreeMap;

/**
 * The document written a second time, sentence by sentence, with lists and maps and without regard
 * to time or room. Each method answers as the one of its name in StoreRealm must.
 */
final class PlainRealm {
    private static final int NONE = -1;
    private static final List<String> KINDS = List.of("maize", "cloth", "meat");

    private record Town(int room, int people, int tens) {
    }

    private record Feast(int town, int month, int kind, int measures) {
    }

    /** Measures of one kind and age: in a town's store, or on their way to it. */
    private static final class Lot {
        final int town;
        final int kind;
        final int arrives;
        int age;
        int measures;

        Lot(int town, int kind, int age, int measures, int arrives) {
            this.town = town;
            this.kind = kind;
            this.age = age;
            this.measures = measures;
            this.arrives = arrives;
        }
    }

    private static final class Told {
        final int keeper;
        final List<Integer> about;
        final int count;
        final int since;
        int until = Integer.MAX_VALUE;

        Told(int keeper, List<Integer> about, int count, int since) {
            this.keeper = keeper;
            this.about = about;
            this.count = count;
            this.since = since;
        }
    }

    private final List<Town> towns = new ArrayList<>();
    private final Map<List<Integer>, Integer> ways = new HashMap<>();
    private final int[] keeping = {12, 60, 24};
    private final List<Lot> lots = new ArrayList<>();
    private final List<Lot> loads = new ArrayList<>();
    private String tape = "";
    private List<PlainOrders.Line> lines = new ArrayList<>();
    private int fault;
    private int place = NONE;
    private int month;
    private final long[] sums = new long[6];
    private final List<Feast> feasts = new ArrayList<>();
    private int hands;
    private final int[] given = new int[8];
    private final List<Told> told = new ArrayList<>();

    public int town(int room, int people, int tens) {
        if (room < 0 || room > 100000 || people < 0 || people > 1000 || tens < 0 || tens > 500 || towns.size() == 8) {
            return NONE;
        }
        towns.add(new Town(room, people, tens));
        return towns.size() - 1;
    }

    private boolean isTown(int town) {
        return town >= 0 && town < towns.size();
    }

    private static boolean isKind(int kind) {
        return kind == 0 || kind == 1 || kind == 2;
    }

    public boolean way(int a, int b, int days) {
        boolean can = isTown(a) && isTown(b) && a != b && (days == NONE || days >= 1 && days <= 200);
        if (can) {
            ways.remove(List.of(Math.min(a, b), Math.max(a, b)));
        }
        if (can && days != NONE) {
            ways.put(List.of(Math.min(a, b), Math.max(a, b)), days);
        }
        return can;
    }

    private int days(int a, int b) {
        return a == b ? 0 : ways.getOrDefault(List.of(Math.min(a, b), Math.max(a, b)), NONE);
    }

    public boolean keeps(int kind, int months) {
        if (!isKind(kind) || months < 1 || months > 60) {
            return false;
        }
        keeping[kind] = months;
        return true;
    }

    private int free(int town) {
        return towns.get(town).room - lots.stream().filter(lot -> lot.town == town).mapToInt(lot -> lot.measures).sum();
    }

    public int put(int town, int kind, int age, int measures) {
        if (!isTown(town) || !isKind(kind) || age < 0 || age > 60 || measures < 1 || measures > 100000) {
            return NONE;
        }
        int fits = Math.min(measures, free(town));
        sums[2] += measures - fits;
        if (fits > 0) {
            lots.add(new Lot(town, kind, age, fits, NONE));
        }
        return fits;
    }

    /** Takes measures out, oldest first: how many of each age, the oldest first. */
    private Map<Integer, Integer> taken(int town, int kind, int measures, int mostAges) {
        Map<Integer, Integer> taken = new TreeMap<>(Comparator.reverseOrder());
        lots.sort(Comparator.comparing((Lot lot) -> -lot.age));
        int left = measures;
        for (Lot lot : lots) {
            boolean mayGo = taken.containsKey(lot.age) || taken.size() < mostAges;
            int part = lot.town == town && lot.kind == kind && mayGo ? Math.min(left, lot.measures) : 0;
            if (part > 0) {
                taken.merge(lot.age, part, Integer::sum);
                lot.measures -= part;
                left -= part;
            }
        }
        lots.removeIf(lot -> lot.measures == 0);
        return taken;
    }

    private static int all(Map<Integer, Integer> taken) {
        return taken.values().stream().mapToInt(part -> part).sum();
    }

    public int take(int town, int kind, int measures) {
        if (!isTown(town) || !isKind(kind) || measures < 1 || measures > 100000) {
            return NONE;
        }
        return all(taken(town, kind, measures, 61));
    }

    public int stock(int town, int kind, int age) {
        if (!isTown(town) || !isKind(kind) || age < NONE || age > 60) {
            return NONE;
        }
        return lots.stream().filter(lot -> lot.town == town && lot.kind == kind && (age == NONE || lot.age == age))
            .mapToInt(lot -> lot.measures).sum();
    }

    public int feed(int a, int b, int c, int d, int e) {
        if (tape.length() + 20 > 1000) {
            return NONE;
        }
        byte[] bytes = ByteBuffer.allocate(20).putInt(a).putInt(b).putInt(c).putInt(d).putInt(e).array();
        tape += new String(bytes, StandardCharsets.ISO_8859_1);
        return tape.length();
    }

    public int end(int n) {
        if (n < 0 || n > tape.length()) {
            return NONE;
        }
        tape = tape.substring(0, n);
        return n;
    }

    public int orders() {
        PlainOrders read = new PlainOrders(tape);
        tape = "";
        fault = read.fault;
        place = read.place;
        if (fault != 0) {
            return NONE;
        }
        lines = read.lines;
        return lines.size();
    }

    public int fault(int what) {
        return what == 0 ? fault : what == 1 ? place : NONE;
    }

    public int months(int n) {
        if (n < 0 || n > 60 || month + n > 2000) {
            return NONE;
        }
        for (int i = 0; i < n; i++) {
            arrive();
            grow();
            for (int town = 0; town < towns.size(); town++) {
                int people = towns.get(town).people;
                sums[0] += people - all(taken(town, 0, people, 61));
            }
            for (PlainOrders.Line line : lines) {
                if (PlainOrders.holds(line, this::term)) {
                    send(line);
                }
            }
            month++;
        }
        return month;
    }

    private void arrive() {
        for (Lot load : loads) {
            if (load.arrives == month) {
                sums[5] += load.measures;
                if (load.age > keeping[load.kind]) {
                    sums[1] += load.measures;
                } else {
                    put(load.town, load.kind, load.age, load.measures);
                }
            }
        }
        loads.removeIf(load -> load.arrives == month);
    }

    private void grow() {
        for (Lot load : loads) {
            load.age++;
        }
        for (Lot lot : lots) {
            lot.age++;
            sums[1] += lot.age > keeping[lot.kind] ? lot.measures : 0;
        }
        lots.removeIf(lot -> lot.age > keeping[lot.kind]);
    }

    private int term(String what, String name, String kindName) {
        if (what.equals("month")) {
            return month;
        }
        int town = name.charAt(1) - '0';
        if (!isTown(town)) {
            return 0;
        }
        int kind = KINDS.indexOf(kindName);
        return switch (what) {
            case "people" -> towns.get(town).people;
            case "room" -> free(town);
            case "stock" -> stock(town, kind, NONE);
            default -> oldest(town, kind);
        };
    }

    private int oldest(int town, int kind) {
        int age = lots.stream().filter(lot -> lot.town == town && lot.kind == kind).mapToInt(lot -> lot.age).max().orElse(0);
        return stock(town, kind, age);
    }

    private void send(PlainOrders.Line line) {
        int from = line.from().charAt(1) - '0';
        int to = line.to().charAt(1) - '0';
        if (!isTown(from) || !isTown(to) || days(from, to) == NONE) {
            return;
        }
        int kind = KINDS.indexOf(line.kind());
        int arrives = month + (int) Math.ceil(days(from, to) / 30.0);
        taken(from, kind, line.measures(), 60 - loads.size())
            .forEach((age, part) -> loads.add(new Lot(to, kind, age, part, arrives)));
    }

    public int sum(int what) {
        if (what < 0 || what > 5) {
            return NONE;
        }
        sums[3] = loads.stream().mapToInt(load -> load.measures).sum();
        sums[4] = loads.size();
        return (int) sums[what];
    }

    public int feast(int town, int inMonth, int kind, int measures) {
        if (!isTown(town) || inMonth < month || inMonth > 2000 || !isKind(kind) || measures < 1 || measures > 10000
            || feasts.size() == 10) {
            return NONE;
        }
        feasts.add(new Feast(town, inMonth, kind, measures));
        return feasts.size() - 1;
    }

    public boolean cancel() {
        if (feasts.isEmpty()) {
            return false;
        }
        feasts.remove(feasts.size() - 1);
        return true;
    }

    public int fed() {
        return plan()[0];
    }

    public int carried() {
        return plan()[1];
    }

    private boolean canGo(Lot lot, Feast feast) {
        int days = days(lot.town, feast.town);
        return lot.kind == feast.kind && days != NONE && month + (int) Math.ceil(days / 30.0) <= feast.month
            && lot.age + (feast.month - month) <= keeping[lot.kind];
    }

    private int[] plan() {
        PlainFlow flow = new PlainFlow(2 + lots.size() + feasts.size());
        for (int lot = 0; lot < lots.size(); lot++) {
            flow.add(0, 2 + lot, lots.get(lot).measures, 0);
            for (int feast = 0; feast < feasts.size(); feast++) {
                if (canGo(lots.get(lot), feasts.get(feast))) {
                    int days = days(lots.get(lot).town, feasts.get(feast).town);
                    flow.add(2 + lot, 2 + lots.size() + feast, lots.get(lot).measures, days);
                }
            }
        }
        for (int feast = 0; feast < feasts.size(); feast++) {
            flow.add(2 + lots.size() + feast, 1, feasts.get(feast).measures, 0);
        }
        flow.fill();
        return new int[] {flow.amount, flow.cost};
    }

    public int call(int asked) {
        int all = towns.stream().mapToInt(town -> town.tens).sum();
        if (asked < 1 || asked > 1000 || all == 0 || hands + asked > 100000) {
            return NONE;
        }
        for (int i = 0; i < asked; i++) {
            hands++;
            int chosen = 0;
            long most = Long.MIN_VALUE;
            for (int town = 0; town < towns.size(); town++) {
                long behind = (long) towns.get(town).tens * hands - (long) all * given[town];
                if (towns.get(town).tens > 0 && behind > most) {
                    chosen = town;
                    most = behind;
                }
            }
            given[chosen]++;
        }
        return hands;
    }

    public int gave(int town) {
        return isTown(town) ? given[town] : NONE;
    }

    public int tell(int keeper, int town, int kind, int ofMonth, int count) {
        if (keeper < 0 || keeper > 4 || !isTown(town) || !isKind(kind) || ofMonth < 0 || ofMonth > month || count < 0
            || count > 1000000 || told.size() == 60) {
            return NONE;
        }
        told.add(new Told(keeper, List.of(town, kind, ofMonth), count, month));
        return told.size() - 1;
    }

    public boolean untell(int count) {
        if (count < 0 || count >= told.size() || told.get(count).until != Integer.MAX_VALUE) {
            return false;
        }
        told.get(count).until = month;
        return true;
    }

    /** For each count for which a keeper speaks, how many do; the least count first. */
    private TreeMap<Integer, Integer> voices(int town, int kind, int ofMonth, int k) {
        Map<Integer, Integer> spoken = new HashMap<>();
        for (Told one : told) {
            boolean untold = one.until != Integer.MAX_VALUE && one.until <= k;
            if (one.about.equals(List.of(town, kind, ofMonth)) && one.since <= k && !untold) {
                spoken.put(one.keeper, one.count);
            }
        }
        TreeMap<Integer, Integer> voices = new TreeMap<>();
        spoken.values().forEach(count -> voices.merge(count, 1, Integer::sum));
        return voices;
    }

    public int count(int town, int kind, int ofMonth, int k) {
        int most = agree(town, kind, ofMonth, k);
        return voices(town, kind, ofMonth, k).entrySet().stream().filter(one -> one.getValue() == most)
            .mapToInt(Map.Entry::getKey).min().orElse(NONE);
    }

    public int agree(int town, int kind, int ofMonth, int k) {
        return voices(town, kind, ofMonth, k).values().stream().mapToInt(one -> one).max().orElse(0);
    }

    public int of(int town, int what) {
        if (!isTown(town)) {
            return NONE;
        }
        return switch (what) {
            case 0 -> towns.get(town).room;
            case 1 -> towns.get(town).people;
            case 2 -> towns.get(town).tens;
            case 3 -> free(town);
            default -> what >= 10 && isTown(what - 10) ? days(town, what - 10) : NONE;
        };
    }

    public int about(int what) {
        return switch (what) {
            case 0 -> month;
            case 1 -> towns.size();
            case 2 -> lines.size();
            case 3 -> feasts.size();
            case 4 -> hands;
            case 5 -> told.size();
            case 6 -> tape.length();
            case 10, 11, 12 -> keeping[what - 10];
            default -> NONE;
        };
    }
}
