import java.util.function.Supplier;

/** Long runs of calls, drawn from fixed seeds, on the class and on the plain model: all answers are the same. */
public final class ModelTest {
    private static final Check CHECK = new Check();
    private static final int RUNS = 600;
    private static final int CALLS = 512;
    private static final int[] EDGES = {-1, 10, 100, 101, 0, Integer.MIN_VALUE, Integer.MAX_VALUE};

    private final MapCarrier x = new MapCarrier();
    private final PlainModel model = new PlainModel();
    private long seed;

    private ModelTest(long seed) {
        this.seed = seed;
    }

    public static void main(String[] args) {
        for (int run = 1; run <= RUNS; run++) {
            new ModelTest(run).run();
        }
        CHECK.close();
    }

    private void run() {
        // Some lands stay small, and some have few shepherds and coins: what happens there differs.
        int wantedPlaces = 1 + draw(11);
        int luck = 1 + draw(6);
        for (int i = 0; i < CALLS; i++) {
            if (x.places() < wantedPlaces && draw(3) > 0) {
                compare("addPlace", () -> x.addPlace(), () -> model.addPlace());
            } else {
                call(draw(40), luck);
            }
            compareState();
        }
        for (int a = -1; a <= x.places(); a++) {
            compareTables(a);
        }
    }

    private void call(int kind, int luck) {
        if (kind < 8) {
            changeLand(kind, luck);
        } else if (kind < 30) {
            changeCarrier(kind, luck);
        } else {
            ask(place());
        }
    }

    private void changeLand(int kind, int luck) {
        int a = place();
        int b = place();
        int miles = number(9);
        int exit = exit();
        if (kind < 5) {
            compare("addRoad", () -> x.addRoad(a, b, miles), () -> model.addRoad(a, b, miles));
        } else if (kind == 5) {
            compare("turnRoad", () -> x.turnRoad(a, exit), () -> model.turnRoad(a, exit));
        } else if (kind == 6) {
            mayAddPlace();
        } else if (draw(luck) == 0) {
            compare("turnShepherd", () -> x.turnShepherd(a), () -> model.turnShepherd(a));
        }
    }

    private void mayAddPlace() {
        if (draw(20) == 0) {
            compare("addPlace", () -> x.addPlace(), () -> model.addPlace());
        }
    }

    private void changeCarrier(int kind, int luck) {
        int goal = place();
        int few = number(4);
        int many = number(100);
        int nights = number(9);
        if (kind < 11 && draw(luck) == 0) {
            compare("pay", () -> x.pay(few), () -> model.pay(few));
        } else if (kind == 11) {
            compare("pay", () -> x.pay(many), () -> model.pay(many));
        } else if (kind < 19) {
            compare("beginErrand", () -> x.beginErrand(goal), () -> model.beginErrand(goal));
        } else if (kind < 24) {
            compare("goOn", () -> x.goOn(few), () -> model.goOn(few));
        } else if (kind < 28) {
            compare("goOn", () -> x.goOn(many), () -> model.goOn(many));
        } else if (kind == 28 && draw(3) == 0) {
            compare("giveUp", () -> x.giveUp(), () -> model.giveUp());
        } else if (kind == 29 && draw(2) == 0) {
            compare("sleep", () -> x.sleep(nights), () -> model.sleep(nights));
        }
    }

    private void ask(int goal) {
        compare("wouldWalk", () -> x.wouldWalk(goal), () -> model.wouldWalk(goal));
        compare("bestShepherd", () -> x.bestShepherd(goal), () -> model.bestShepherd(goal));
        compare("knowsWay", () -> x.knowsWay(goal), () -> model.knowsWay(goal));
    }

    private void compareState() {
        compare("places", () -> x.places(), () -> model.places());
        compare("whereIs", () -> x.whereIs(), () -> model.whereIs());
        compare("coins", () -> x.coins(), () -> model.coins());
        compare("goal", () -> x.goal(), () -> model.goal());
        compare("wayLength", () -> x.wayLength(), () -> model.wayLength());
        compare("milesWalked", () -> x.milesWalked(), () -> model.milesWalked());
        compare("milesDoubled", () -> x.milesDoubled(), () -> model.milesDoubled());
        compare("errandsDone", () -> x.errandsDone(), () -> model.errandsDone());
        compare("errandsInVain", () -> x.errandsInVain(), () -> model.errandsInVain());
        compare("asked", () -> x.asked(), () -> model.asked());
        compare("meanMiles", () -> x.meanMiles(), () -> model.meanMiles());
        compare("digest", () -> x.digest(), () -> Answers.digest(x));
        compareTables(place());
    }

    private void compareTables(int a) {
        compare("exitsOf", () -> x.exitsOf(a), () -> model.exitsOf(a));
        compare("hasShepherd", () -> x.hasShepherd(a), () -> model.hasShepherd(a));
        for (int i = -1; i <= 4; i++) {
            int exit = i;
            compare("leadsTo", () -> x.leadsTo(a, exit), () -> model.leadsTo(a, exit));
            compare("milesOf", () -> x.milesOf(a, exit), () -> model.milesOf(a, exit));
            compare("isOpen", () -> x.isOpen(a, exit), () -> model.isOpen(a, exit));
            compare("isTried", () -> x.isTried(a, exit), () -> model.isTried(a, exit));
        }
        int b = place();
        compare("distance", () -> x.distance(a, b), () -> model.distance(a, b));
        compare("knowsWay", () -> x.knowsWay(a), () -> model.knowsWay(a));
        for (int i = -1; i <= x.places(); i++) {
            int place = i;
            compare("remembered", () -> x.remembered(a, place), () -> model.remembered(a, place));
            compare("strength", () -> x.strength(a, place), () -> model.strength(a, place));
        }
    }

    private void compare(String what, Supplier<Object> call, Supplier<Object> due) {
        CHECK.sameText(what, answer(call), answer(due));
    }

    private static String answer(Supplier<Object> call) {
        try {
            return String.valueOf(call.get());
        } catch (RuntimeException e) {
            return "throws." + e.getClass().getSimpleName();
        }
    }

    private int place() {
        return draw(25) == 0 ? EDGES[draw(EDGES.length)] : draw(Math.max(1, x.places()));
    }

    private int exit() {
        return draw(25) == 0 ? EDGES[draw(EDGES.length)] : draw(4);
    }

    private int number(int most) {
        return draw(25) == 0 ? EDGES[draw(EDGES.length)] : 1 + draw(most);
    }

    /** A number from 0 to below the bound, the same in every run of this program. */
    private int draw(int bound) {
        seed = seed * 6364136223846793005L + 1442695040888963407L;
        return (int) ((seed >>> 33) % bound);
    }
}
