import java.util.ArrayList;
import java.util.Arrays;
import java.util.List;
import java.util.Random;

/** Promises 14 to 17: feast, cancel, fed, carried. */
public final class FeastsTest {
    private static final Check CHECK = new Check("FeastsTest");

    public static void main(String[] args) {
        edges();
        whoCanGo();
        overFeasts();
        mostBeforeLeast();
        kindsApart();
        greatest();
        for (int seed = 0; seed < 1500; seed++) {
            againstAllPlans(seed);
        }
        for (int seed = 0; seed < 400; seed++) {
            againstUnitSteps(seed, 3);
        }
        // All feasts of one kind: much that was given must be taken back.
        for (int seed = 400; seed < 1000; seed++) {
            againstUnitSteps(seed, 1);
        }
        CHECK.close();
    }

    private static void edges() {
        StoreRealm realm = new StoreRealm();
        CHECK.due("a feast in no town", realm.feast(0, 0, 0, 1), StoreRealm.NONE);
        realm.town(100, 0, 0);
        realm.months(5);
        int[][] bad = {{-1, 5, 0, 1}, {1, 5, 0, 1}, {0, 4, 0, 1}, {0, -1, 0, 1}, {0, 2001, 0, 1}, {0, 5, -1, 1},
            {0, 5, 3, 1}, {0, 5, 0, 0}, {0, 5, 0, 10001}, {0, 5, 0, -1}};
        for (int[] row : bad) {
            CHECK.due("a feast that can't be", realm.feast(row[0], row[1], row[2], row[3]), StoreRealm.NONE);
        }
        CHECK.due("no feast", realm.about(3), 0);
        CHECK.due("nothing to cancel", realm.cancel(), false);
        CHECK.due("now", realm.feast(0, 5, 0, 1), 0);
        CHECK.due("last", realm.feast(0, 2000, 2, 10000), 1);
        for (int feast = 2; feast < 10; feast++) {
            CHECK.due("one more", realm.feast(0, 6, 1, 3), feast);
        }
        CHECK.due("an eleventh", realm.feast(0, 6, 1, 3), StoreRealm.NONE);
        CHECK.due("ten", realm.about(3), 10);
        CHECK.due("cancel", realm.cancel(), true);
        CHECK.due("nine", realm.about(3), 9);
        CHECK.due("the tenth anew", realm.feast(0, 6, 1, 3), 9);
        for (int feast = 0; feast < 10; feast++) {
            CHECK.due("cancel", realm.cancel(), true);
        }
        CHECK.due("none left", realm.cancel(), false);
    }

    private static int fedWith(int days, int months, int age) {
        StoreRealm realm = new StoreRealm();
        realm.town(100, 0, 0);
        realm.town(100, 0, 0);
        if (days > 0) {
            realm.way(0, 1, days);
        }
        realm.months(3);
        realm.put(0, 0, age, 10);
        realm.feast(days == 0 ? 0 : 1, 3 + months, 0, 7);
        int fed = realm.fed();
        CHECK.due("carried", realm.carried(), fed * Math.max(0, days));
        return fed;
    }

    private static void whoCanGo() {
        CHECK.due("in its own town at once", fedWith(0, 0, 12), 7);
        CHECK.due("too old", fedWith(0, 0, 13), 0);
        CHECK.due("just not too old then", fedWith(0, 5, 7), 7);
        CHECK.due("too old then", fedWith(0, 5, 8), 0);
        CHECK.due("without a way", fedWith(-1, 5, 0), 0);
        CHECK.due("not within the month", fedWith(1, 0, 0), 0);
        CHECK.due("in a month", fedWith(30, 1, 0), 7);
        CHECK.due("not in a month", fedWith(31, 1, 0), 0);
        CHECK.due("in two", fedWith(31, 2, 10), 7);
        CHECK.due("in two, too old", fedWith(31, 2, 11), 0);
        CHECK.due("in seven", fedWith(200, 7, 0), 7);
        CHECK.due("not in six", fedWith(200, 6, 0), 0);
    }

    private static void overFeasts() {
        StoreRealm realm = new StoreRealm();
        realm.town(100, 0, 0);
        realm.put(0, 1, 0, 50);
        realm.feast(0, 0, 1, 20);
        CHECK.due("now", realm.fed(), 20);
        realm.months(1);
        CHECK.due("over", realm.fed(), 0);
        CHECK.due("it is still a feast", realm.about(3), 1);
    }

    private static void mostBeforeLeast() {
        StoreRealm realm = new StoreRealm();
        for (int town = 0; town < 3; town++) {
            realm.town(100, 0, 0);
        }
        realm.way(0, 1, 1);
        realm.way(1, 2, 30);
        realm.put(1, 1, 0, 10);
        realm.feast(1, 2, 1, 10);
        CHECK.due("at home", realm.carried(), 0);
        realm.put(0, 1, 0, 10);
        realm.feast(2, 2, 1, 10);
        CHECK.due("most is had", realm.fed(), 20);
        CHECK.due("though more is carried", realm.carried(), 10 + 300);
        realm.cancel();
        CHECK.due("cancelled", realm.carried(), 0);
        CHECK.due("stores stay as they are", realm.stock(1, 1, 0), 10);
    }

    private static void kindsApart() {
        StoreRealm realm = new StoreRealm();
        realm.town(100, 0, 0);
        realm.put(0, 0, 0, 5);
        realm.put(0, 1, 0, 6);
        realm.put(0, 2, 0, 7);
        realm.feast(0, 0, 0, 100);
        CHECK.due("maize", realm.fed(), 5);
        realm.feast(0, 0, 2, 100);
        CHECK.due("maize and meat", realm.fed(), 12);
        realm.feast(0, 0, 1, 3);
        CHECK.due("all", realm.fed(), 15);
    }

    private static void greatest() {
        StoreRealm realm = new StoreRealm();
        for (int town = 0; town < 8; town++) {
            realm.town(100000, 0, 0);
        }
        for (int town = 1; town < 8; town++) {
            realm.way(0, town, 200);
            realm.put(town, 1, 0, 100000);
        }
        for (int feast = 0; feast < 10; feast++) {
            realm.feast(0, 7, 1, 10000);
        }
        CHECK.due("all is had", realm.fed(), 100000);
        CHECK.due("all is carried", realm.carried(), 20000000);
    }

    /** A realm by chance, as rows: lots and feasts, and what it costs to bring one to the other. */
    private static final class Chance {
        final StoreRealm realm = new StoreRealm();
        final List<int[]> lots = new ArrayList<>(); // town, kind, age, measures
        final List<int[]> feasts = new ArrayList<>(); // town, month, kind, measures
        final int[][] days;
        final int[] keeps = new int[3];
        final int now;

        Chance(Random random, int towns, int lotCount, int feastCount, int most, int kinds) {
            days = new int[towns][towns];
            now = random.nextInt(3);
            for (int town = 0; town < towns; town++) {
                realm.town(100000, 0, 0);
                for (int other = 0; other < town; other++) {
                    int way = random.nextInt(4) == 0 ? StoreRealm.NONE : 1 + random.nextInt(random.nextBoolean() ? 40 : 200);
                    days[town][other] = way;
                    days[other][town] = way;
                    realm.way(town, other, way);
                }
            }
            realm.months(now);
            for (int kind = 0; kind < 3; kind++) {
                keeps[kind] = 4 + random.nextInt(8);
                realm.keeps(kind, keeps[kind]);
            }
            for (int i = 0; i < lotCount; i++) {
                int[] lot = {random.nextInt(towns), random.nextInt(kinds), random.nextInt(10), 1 + random.nextInt(most)};
                realm.put(lot[0], lot[1], lot[2], lot[3]);
                lots.add(lot);
            }
            for (int i = 0; i < feastCount; i++) {
                int[] feast = {random.nextInt(towns), now + random.nextInt(8), random.nextInt(kinds), 1 + random.nextInt(most)};
                realm.feast(feast[0], feast[1], feast[2], feast[3]);
                feasts.add(feast);
            }
        }

        int cost(int[] lot, int[] feast) {
            int way = days[lot[0]][feast[0]];
            boolean can = lot[1] == feast[2] && way != StoreRealm.NONE
                && now + Math.ceil(way / 30.0) <= feast[1] && lot[2] + feast[1] - now <= keeps[lot[1]];
            return can ? way : StoreRealm.NONE;
        }
    }

    private static void againstAllPlans(int seed) {
        Random random = new Random(seed);
        Chance chance = new Chance(random, 1 + random.nextInt(4), 1 + random.nextInt(4), 1 + random.nextInt(3), 3, 2);
        int[] wants = chance.feasts.stream().mapToInt(f -> f[3]).toArray();
        int[] best = {0, 0};
        tryPlans(chance, wants, 0, 0, 0, 0, 0, best);
        CHECK.due("seed " + seed + ": fed", chance.realm.fed(), best[0]);
        CHECK.due("seed " + seed + ": carried", chance.realm.carried(), best[1]);
    }

    private static void tryPlans(Chance chance, int[] wants, int lot, int feast, int used, int fed, int carried, int[] best) {
        if (lot == chance.lots.size()) {
            if (fed > best[0] || fed == best[0] && carried < best[1]) {
                best[0] = fed;
                best[1] = carried;
            }
            return;
        }
        if (feast == wants.length) {
            tryPlans(chance, wants, lot + 1, 0, 0, fed, carried, best);
            return;
        }
        int cost = chance.cost(chance.lots.get(lot), chance.feasts.get(feast));
        int most = cost == StoreRealm.NONE ? 0 : Math.min(chance.lots.get(lot)[3] - used, wants[feast]);
        for (int part = 0; part <= most; part++) {
            wants[feast] -= part;
            tryPlans(chance, wants, lot, feast + 1, used + part, fed + part, carried + part * cost, best);
            wants[feast] += part;
        }
    }

    /** The same by the plainest flow: a node for each lot and feast, one measure at a time. */
    private static void againstUnitSteps(int seed, int kinds) {
        Random random = new Random(1000000 + seed);
        Chance chance = new Chance(random, 2 + random.nextInt(7), 5 + random.nextInt(40), 3 + random.nextInt(8), 12, kinds);
        int lots = chance.lots.size();
        int feasts = chance.feasts.size();
        int nodes = lots + feasts + 2;
        int[][] free = new int[nodes][nodes];
        int[][] cost = new int[nodes][nodes];
        for (int lot = 0; lot < lots; lot++) {
            free[nodes - 2][lot] = chance.lots.get(lot)[3];
            for (int feast = 0; feast < feasts; feast++) {
                int days = chance.cost(chance.lots.get(lot), chance.feasts.get(feast));
                if (days != StoreRealm.NONE) {
                    free[lot][lots + feast] = 1000;
                    cost[lot][lots + feast] = days;
                    cost[lots + feast][lot] = -days;
                }
            }
        }
        for (int feast = 0; feast < feasts; feast++) {
            free[lots + feast][nodes - 1] = chance.feasts.get(feast)[3];
        }
        int fed = 0;
        int carried = 0;
        for (int step = stepCost(free, cost); step != StoreRealm.NONE; step = stepCost(free, cost)) {
            fed++;
            carried += step;
        }
        CHECK.due("seed " + seed + ": fed", chance.realm.fed(), fed);
        CHECK.due("seed " + seed + ": carried", chance.realm.carried(), carried);
    }

    private static int stepCost(int[][] free, int[][] cost) {
        int nodes = free.length;
        int[] dist = new int[nodes];
        int[] from = new int[nodes];
        Arrays.fill(dist, 1 << 28);
        dist[nodes - 2] = 0;
        for (boolean better = true; better;) {
            better = false;
            for (int a = 0; a < nodes; a++) {
                for (int b = 0; b < nodes; b++) {
                    if (free[a][b] > 0 && dist[a] < 1 << 28 && dist[a] + cost[a][b] < dist[b]) {
                        dist[b] = dist[a] + cost[a][b];
                        from[b] = a;
                        better = true;
                    }
                }
            }
        }
        if (dist[nodes - 1] >= 1 << 27) {
            return StoreRealm.NONE;
        }
        for (int b = nodes - 1; b != nodes - 2; b = from[b]) {
            free[from[b]][b]--;
            free[b][from[b]]++;
        }
        return dist[nodes - 1];
    }
}
