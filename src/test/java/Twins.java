import java.util.ArrayList;
import java.util.List;
import java.util.function.Consumer;
import java.util.function.ToIntFunction;

/**
 * Twin objects with the same calls behind them, one of which has one call more. If that call does
 * nothing, whatever is asked of the two later has the same answers.
 *
 * An object is good for 512 calls, so each view of it is had from a pair of its own.
 */
final class Twins {
    private static final int TOWNS = 8;
    private static final int VIEWS = TOWNS + 2;

    private final Check check;
    private final Consumer<StoreRealm> scene;
    private final List<String> seenWithout = new ArrayList<>();

    Twins(Check check, Consumer<StoreRealm> scene) {
        this.check = check;
        this.scene = scene;
        for (int view = 0; view < VIEWS; view++) {
            seenWithout.add(look(realm(), view));
        }
    }

    /** A call that answers as due and does nothing. */
    void idle(String what, ToIntFunction<StoreRealm> call, int due) {
        for (int view = 0; view < VIEWS; view++) {
            StoreRealm realm = realm();
            int answer = call.applyAsInt(realm);
            if (view == 0) {
                check.due(what, answer, due);
            }
            check.due(what + " does nothing, view " + view, look(realm, view).equals(seenWithout.get(view)), true);
        }
    }

    void none(String what, ToIntFunction<StoreRealm> call) {
        idle(what, call, StoreRealm.NONE);
    }

    StoreRealm realm() {
        StoreRealm realm = new StoreRealm();
        scene.accept(realm);
        return realm;
    }

    private static String look(StoreRealm realm, int view) {
        if (view < TOWNS) {
            return lookAtTown(realm, view);
        }
        return view == TOWNS ? lookAtAll(realm) : lookAtWhatComes(realm);
    }

    private static String lookAtTown(StoreRealm realm, int town) {
        StringBuilder seen = new StringBuilder();
        note(seen, realm.gave(town));
        for (int what = 0; what <= 17; what++) {
            note(seen, realm.of(town, what));
        }
        for (int kind = 0; kind < 3; kind++) {
            for (int age = StoreRealm.NONE; age <= 60; age++) {
                note(seen, realm.stock(town, kind, age));
            }
        }
        return seen.toString();
    }

    private static String lookAtAll(StoreRealm realm) {
        StringBuilder seen = new StringBuilder();
        for (int what = 0; what <= 12; what++) {
            note(seen, realm.about(what), realm.sum(what % 6));
        }
        note(seen, realm.fault(0), realm.fault(1), realm.fed(), realm.carried());
        for (int town = 0; town < 2; town++) {
            for (int kind = 0; kind < 3; kind++) {
                for (int month = 0; month < 5; month++) {
                    for (int k = 0; k < 5; k++) {
                        note(seen, realm.count(town, kind, month, k), realm.agree(town, kind, month, k));
                    }
                }
            }
        }
        return seen.toString();
    }

    /** What is on the tape, behind the orders and on its way shows only in what comes. */
    private static String lookAtWhatComes(StoreRealm realm) {
        StringBuilder seen = new StringBuilder();
        for (int month = 0; month < 8; month++) {
            note(seen, realm.months(1), realm.fed(), realm.carried());
            for (int what = 0; what < 6; what++) {
                note(seen, realm.sum(what));
            }
            for (int town = 0; town < 2; town++) {
                note(seen, realm.stock(town, 0, -1), realm.stock(town, 1, -1), realm.stock(town, 2, -1));
            }
        }
        note(seen, realm.call(13), realm.feast(0, 2000, 0, 1), realm.tell(0, 0, 0, 0, 0), realm.town(1, 1, 1));
        for (int town = 0; town < TOWNS; town++) {
            note(seen, realm.gave(town));
        }
        for (int count = 0; count < 62; count++) {
            note(seen, realm.untell(count) ? 1 : 0);
        }
        for (int feast = 0; feast < 11; feast++) {
            note(seen, realm.cancel() ? 1 : 0);
        }
        note(seen, realm.orders(), realm.fault(0), realm.fault(1), realm.about(2), realm.months(3), realm.sum(3));
        return seen.toString();
    }

    private static void note(StringBuilder seen, int... answers) {
        for (int answer : answers) {
            seen.append(answer).append(' ');
        }
    }

    /** Two towns of eight, and something of all that a realm may have; it is month 3. */
    static void busyRealm(StoreRealm realm) {
        realm.town(1000, 5, 30);
        realm.town(500, 0, 10);
        realm.way(0, 1, 100);
        realm.put(0, 0, 3, 200);
        realm.put(0, 1, 0, 90);
        realm.put(1, 2, 20, 40);
        realm.put(1, 0, 1, 7);
        Check.order(realm, "move 6 maize from t0 to t1; when month > 1 move 4 meat from t1 to t0;");
        realm.months(3);
        realm.feast(1, 9, 0, 60);
        realm.feast(0, 4, 1, 25);
        realm.call(7);
        realm.tell(0, 0, 0, 1, 40);
        realm.tell(1, 0, 0, 1, 30);
        realm.untell(1);
        realm.tell(2, 1, 2, 3, 9);
        Check.order(realm, "move 1 meat from t3 to t3;");
        Check.lay(realm, "move 9 cloth from t0 to t1;");
    }
}
