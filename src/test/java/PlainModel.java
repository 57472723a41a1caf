import java.util.ArrayList;
import java.util.HashMap;
import java.util.HashSet;
import java.util.List;
import java.util.Map;
import java.util.Set;

/** The document once more, written as plainly as can be and without the class's ways, to compare with. */
final class PlainModel {
    private static final class Exit {
        int from;
        int number;
        int miles;
        boolean open = true;
        Exit other;
    }

    private final List<List<Exit>> land = new ArrayList<>();
    private final Set<Integer> shepherds = new HashSet<>();
    private Map<List<Integer>, int[]> memory = new HashMap<>();
    private int at = 0;
    private int coins = 0;
    private Integer goal = null;
    private final Set<Exit> tried = new HashSet<>();
    private final Set<Integer> askedHere = new HashSet<>();
    private final List<Exit> way = new ArrayList<>();
    private int walked = 0;
    private int doubled = 0;
    private int done = 0;
    private int vain = 0;
    private int asked = 0;

    int addPlace() {
        refuseState(land.size() == 10);
        land.add(new ArrayList<>());
        return land.size() - 1;
    }

    int addRoad(int a, int b, int miles) {
        place(a);
        place(b);
        refuseArgument(a == b || miles < 1 || miles > 9);
        refuseState(land.get(a).size() == 4 || land.get(b).size() == 4);
        Exit one = newExit(a, miles);
        Exit two = newExit(b, miles);
        one.other = two;
        two.other = one;
        return one.number;
    }

    private Exit newExit(int place, int miles) {
        Exit exit = new Exit();
        exit.from = place;
        exit.number = land.get(place).size();
        exit.miles = miles;
        land.get(place).add(exit);
        return exit;
    }

    boolean turnRoad(int place, int exit) {
        Exit turned = exit(place, exit);
        turned.open = !turned.open;
        turned.other.open = turned.open;
        return turned.open;
    }

    boolean turnShepherd(int place) {
        place(place);
        if (!shepherds.remove(place)) {
            shepherds.add(place);
        }
        return shepherds.contains(place);
    }

    int pay(int more) {
        refuseArgument(more < 1 || more > 99);
        coins = coins + more > 99 ? 99 : coins + more;
        return coins;
    }

    int beginErrand(int newGoal) {
        place(newGoal);
        refuseState(goal != null);
        tried.clear();
        askedHere.clear();
        way.clear();
        if (newGoal == at) {
            done++;
        } else {
            goal = newGoal;
        }
        return distance(at, newGoal);
    }

    int goOn(int steps) {
        refuseArgument(steps < 1 || steps > 100);
        refuseState(goal == null);
        int made = 0;
        while (made < steps && goal != null) {
            if (step()) {
                made++;
            }
        }
        return made;
    }

    private boolean step() {
        Exit taken = choose();
        if (taken != null) {
            tried.add(taken);
            tried.add(taken.other);
            way.add(taken);
            walked += taken.miles;
            at = taken.other.from;
        } else if (way.isEmpty()) {
            vain++;
            over();
            return false;
        } else {
            Exit last = way.remove(way.size() - 1);
            walked += last.miles;
            doubled += last.miles;
            at = last.from;
        }
        if (at == goal) {
            for (Exit exit : way) {
                int[] old = memory.get(List.of(goal, exit.from));
                boolean same = old != null && old[0] == exit.number;
                remember(exit, same ? Math.min(old[1] + 3, 9) : 3);
            }
            done++;
            over();
        }
        return true;
    }

    private Exit choose() {
        int[] known = memory.get(List.of(goal, at));
        if (known != null) {
            Exit exit = land.get(at).get(known[0]);
            if (exit.open && !tried.contains(exit)) {
                return exit;
            }
        }
        if (shepherds.contains(at) && coins > 0 && askedHere.add(at)) {
            coins--;
            asked++;
            Exit told = told();
            if (told != null) {
                remember(told, 3);
                if (!tried.contains(told)) {
                    return told;
                }
            }
        }
        for (Exit exit : land.get(at)) {
            if (exit.open && !tried.contains(exit)) {
                return exit;
            }
        }
        return null;
    }

    private Exit told() {
        Exit best = null;
        int fewest = Integer.MAX_VALUE;
        for (Exit exit : land.get(at)) {
            int rest = distance(exit.other.from, goal);
            if (exit.open && rest >= 0 && exit.miles + rest < fewest) {
                fewest = exit.miles + rest;
                best = exit;
            }
        }
        return best;
    }

    private void remember(Exit exit, int strength) {
        memory.put(List.of(goal, exit.from), new int[] {exit.number, strength});
    }

    private void over() {
        goal = null;
        way.clear();
        tried.clear();
    }

    int giveUp() {
        refuseState(goal == null);
        int exits = way.size();
        over();
        return exits;
    }

    int sleep(int nights) {
        refuseArgument(nights < 1 || nights > 9);
        int before = memory.size();
        for (int night = 0; night < nights; night++) {
            for (int[] known : memory.values()) {
                known[1]--;
            }
            memory.values().removeIf(known -> known[1] == 0);
        }
        return before - memory.size();
    }

    int places() {
        return land.size();
    }

    int exitsOf(int place) {
        place(place);
        return land.get(place).size();
    }

    int leadsTo(int place, int exit) {
        return exit(place, exit).other.from;
    }

    int milesOf(int place, int exit) {
        return exit(place, exit).miles;
    }

    boolean isOpen(int place, int exit) {
        return exit(place, exit).open;
    }

    boolean hasShepherd(int place) {
        place(place);
        return shepherds.contains(place);
    }

    /** By all pairs (Floyd and Warshall). */
    int distance(int a, int b) {
        place(a);
        place(b);
        int n = land.size();
        int[][] far = new int[n][n];
        for (int i = 0; i < n; i++) {
            for (int j = 0; j < n; j++) {
                far[i][j] = i == j ? 0 : 1000;
            }
            for (Exit exit : land.get(i)) {
                if (exit.open) {
                    far[i][exit.other.from] = Math.min(far[i][exit.other.from], exit.miles);
                }
            }
        }
        for (int k = 0; k < n; k++) {
            for (int i = 0; i < n; i++) {
                for (int j = 0; j < n; j++) {
                    far[i][j] = Math.min(far[i][j], far[i][k] + far[k][j]);
                }
            }
        }
        return far[a][b] >= 1000 ? -1 : far[a][b];
    }

    int whereIs() {
        return land.isEmpty() ? -1 : at;
    }

    int coins() {
        return coins;
    }

    int goal() {
        return goal == null ? -1 : goal;
    }

    int wayLength() {
        return way.size();
    }

    boolean isTried(int place, int exit) {
        return tried.contains(exit(place, exit));
    }

    int remembered(int forGoal, int place) {
        place(forGoal);
        place(place);
        int[] known = memory.get(List.of(forGoal, place));
        return known == null ? -1 : known[0];
    }

    int strength(int forGoal, int place) {
        place(forGoal);
        place(place);
        int[] known = memory.get(List.of(forGoal, place));
        return known == null ? 0 : known[1];
    }

    boolean knowsWay(int forGoal) {
        place(forGoal);
        int place = at;
        for (int i = 0; i < 10 && place != forGoal; i++) {
            int[] known = memory.get(List.of(forGoal, place));
            if (known == null || !land.get(place).get(known[0]).open) {
                return false;
            }
            place = land.get(place).get(known[0]).other.from;
        }
        return place == forGoal;
    }

    int milesWalked() {
        return walked;
    }

    int milesDoubled() {
        return doubled;
    }

    int errandsDone() {
        return done;
    }

    int errandsInVain() {
        return vain;
    }

    int asked() {
        return asked;
    }

    /** Really goes the errand, and puts all back as it was. */
    int wouldWalk(int newGoal) {
        place(newGoal);
        refuseState(goal != null);
        int[] before = {at, coins, walked, doubled, done, vain, asked};
        Map<List<Integer>, int[]> remembered = memory;
        memory = new HashMap<>();
        for (Map.Entry<List<Integer>, int[]> known : remembered.entrySet()) {
            memory.put(known.getKey(), known.getValue().clone());
        }
        beginErrand(newGoal);
        if (goal != null) {
            goOn(100);
        }
        int miles = vain > before[5] ? -1 : walked - before[2];
        memory = remembered;
        at = before[0];
        coins = before[1];
        walked = before[2];
        doubled = before[3];
        done = before[4];
        vain = before[5];
        asked = before[6];
        return miles;
    }

    int bestShepherd(int newGoal) {
        int now = wouldWalk(newGoal);
        int best = -1;
        int fewest = now == -1 ? Integer.MAX_VALUE : now;
        for (int place = 0; place < land.size(); place++) {
            if (shepherds.add(place)) {
                int miles = wouldWalk(newGoal);
                shepherds.remove(place);
                if (miles != -1 && miles < fewest) {
                    fewest = miles;
                    best = place;
                }
            }
        }
        return best;
    }

    double meanMiles() {
        return done + vain == 0 ? 0.0 : 1.0 * walked / (done + vain);
    }

    private void place(int place) {
        if (place < 0 || place >= land.size()) {
            throw new IndexOutOfBoundsException();
        }
    }

    private Exit exit(int place, int exit) {
        place(place);
        if (exit < 0 || exit >= land.get(place).size()) {
            throw new IndexOutOfBoundsException();
        }
        return land.get(place).get(exit);
    }

    private static void refuseArgument(boolean wrong) {
        if (wrong) {
            throw new IllegalArgumentException();
        }
    }

    private static void refuseState(boolean wrong) {
        if (wrong) {
            throw new IllegalStateException();
        }
    }
}
