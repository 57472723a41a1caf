import java.lang.reflect.Method;
import java.util.ArrayList;
import java.util.List;
import java.util.Set;
import java.util.TreeSet;

/**
 * "A method that throws an exception changes nothing. If several exceptions apply, the one that is named first is
 * thrown." Every refused call is made at every state of a run of calls, each on an object of its own; the run goes on
 * behind it, and answers as if it had not been made: what can't be seen at once has not been changed either.
 */
public final class RefusalTest {
    private static final Check CHECK = new Check();
    private static final String PLACE = "IndexOutOfBoundsException";
    private static final String NUMBER = "IllegalArgumentException";
    private static final String STATE = "IllegalStateException";
    private static final String NONE = "nothing";

    private interface Call {
        Object on(MapCarrier x);
    }

    private record Refused(String name, String due, Call call) {
    }

    private static final Call[] RUN = {
        x -> x.addPlace(), x -> x.addPlace(), x -> x.addRoad(0, 1, 2), x -> x.addPlace(), x -> x.addPlace(),
        x -> x.addRoad(0, 2, 3), x -> x.addRoad(2, 3, 4), x -> x.turnShepherd(0), x -> x.pay(3),
        // 0 is asked, the way it tells is closed and opened again, and another road leads to the goal.
        x -> x.beginErrand(3), x -> x.goOn(1), x -> x.turnRoad(2, 1), x -> x.goOn(1), x -> x.goOn(1),
        x -> x.turnRoad(2, 1), x -> x.goOn(1), x -> x.addRoad(0, 3, 9), x -> x.goOn(1), x -> x.sleep(1),
        x -> x.wouldWalk(0), x -> x.beginErrand(0), x -> x.goOn(1), x -> x.giveUp(),
        // Ten places, and four exits at 0.
        x -> x.addPlace(), x -> x.addPlace(), x -> x.addPlace(), x -> x.addPlace(), x -> x.addPlace(),
        x -> x.addPlace(), x -> x.addRoad(9, 0, 1), x -> x.bestShepherd(9), x -> x.beginErrand(9), x -> x.goOn(1),
        x -> x.turnShepherd(2), x -> x.goOn(100), x -> x.pay(99), x -> x.beginErrand(9), x -> x.beginErrand(5),
        x -> x.goOn(3), x -> x.sleep(2), x -> x.goOn(100), x -> x.sleep(9),
    };

    private RefusalTest() {
    }

    public static void main(String[] args) {
        for (int made = 0; made <= RUN.length; made++) {
            String before = Answers.all(after(made));
            String behind = goOnFrom(made, after(made));
            for (Refused refused : refusedCalls(after(made))) {
                refuse(made, refused, before, behind);
            }
        }
        allAreRefusedSomewhere();
        CHECK.close();
    }

    private static MapCarrier after(int made) {
        MapCarrier x = new MapCarrier();
        for (int i = 0; i < made; i++) {
            RUN[i].on(x);
        }
        return x;
    }

    /** The answers of the calls that are left of the run, and what can be asked at its end. */
    private static String goOnFrom(int made, MapCarrier x) {
        StringBuilder text = new StringBuilder();
        for (int i = made; i < RUN.length; i++) {
            text.append(RUN[i].on(x)).append(' ');
        }
        return text.append(Answers.all(x)).toString();
    }

    private static void refuse(int made, Refused refused, String before, String behind) {
        MapCarrier x = after(made);
        String what = refused.name() + " after " + made + " calls";
        String got = NONE;
        try {
            refused.call().on(x);
        } catch (RuntimeException e) {
            got = e.getClass().getSimpleName();
        }
        CHECK.sameText(what + " throws", got, refused.due());
        CHECK.sameText(what + " changes nothing", Answers.all(x), before);
        CHECK.sameText(what + " changes nothing of what follows", goOnFrom(made, x), behind);
    }

    /** That no method which can throw has been left out, and none of its exceptions. */
    private static void allAreRefusedSomewhere() {
        Set<String> due = new TreeSet<>();
        for (Method method : MapCarrier.class.getDeclaredMethods()) {
            for (Class<?> exception : method.getExceptionTypes()) {
                due.add(method.getName() + " " + exception.getSimpleName());
            }
        }
        Set<String> seen = new TreeSet<>();
        for (int made = 0; made <= RUN.length; made++) {
            for (Refused refused : refusedCalls(after(made))) {
                seen.add(refused.name().substring(0, refused.name().indexOf('(')) + " " + refused.due());
            }
        }
        CHECK.sameText("methods and their exceptions", seen.toString(), due.toString());
    }

    /** What the document lets be refused at this state, with the exception that it names first. */
    private static List<Refused> refusedCalls(MapCarrier now) {
        List<Refused> all = new ArrayList<>();
        add(all, "addPlace()", now.places() == 10 ? STATE : NONE, x -> x.addPlace());
        add(all, "giveUp()", now.goal() == -1 ? STATE : NONE, x -> x.giveUp());
        addRoads(all, now);
        addExits(all, now);
        addPlaces(all, now);
        addPairs(all, now);
        addGoals(all, now);
        addNumbers(all, now);
        return all;
    }

    private static void add(List<Refused> all, String name, String due, Call call) {
        if (!due.equals(NONE)) {
            all.add(new Refused(name, due, call));
        }
    }

    private static void addRoads(List<Refused> all, MapCarrier now) {
        int[] miles = {1, 9, 0, 10, -1, Integer.MIN_VALUE, Integer.MAX_VALUE};
        for (int a : someNumbers(now.places())) {
            for (int b : someNumbers(now.places())) {
                for (int m : miles) {
                    String name = "addRoad(" + a + ", " + b + ", " + m + ")";
                    add(all, name, dueOfRoad(now, a, b, m), x -> x.addRoad(a, b, m));
                }
            }
        }
    }

    private static String dueOfRoad(MapCarrier now, int a, int b, int miles) {
        if (isNoPlace(now, a) || isNoPlace(now, b)) {
            return PLACE;
        }
        if (a == b || miles < 1 || miles > 9) {
            return NUMBER;
        }
        return now.exitsOf(a) == 4 || now.exitsOf(b) == 4 ? STATE : NONE;
    }

    private static void addExits(List<Refused> all, MapCarrier now) {
        for (int place : someNumbers(now.places())) {
            int exits = isNoPlace(now, place) ? 0 : now.exitsOf(place);
            for (int exit : someNumbers(exits)) {
                String of = "(" + place + ", " + exit + ")";
                String due = exit < 0 || exit >= exits ? PLACE : NONE;
                add(all, "turnRoad" + of, due, x -> x.turnRoad(place, exit));
                add(all, "leadsTo" + of, due, x -> x.leadsTo(place, exit));
                add(all, "milesOf" + of, due, x -> x.milesOf(place, exit));
                add(all, "isOpen" + of, due, x -> x.isOpen(place, exit));
                add(all, "isTried" + of, due, x -> x.isTried(place, exit));
            }
        }
    }

    private static void addPlaces(List<Refused> all, MapCarrier now) {
        for (int place : someNumbers(now.places())) {
            String of = "(" + place + ")";
            String due = isNoPlace(now, place) ? PLACE : NONE;
            add(all, "turnShepherd" + of, due, x -> x.turnShepherd(place));
            add(all, "exitsOf" + of, due, x -> x.exitsOf(place));
            add(all, "hasShepherd" + of, due, x -> x.hasShepherd(place));
            add(all, "knowsWay" + of, due, x -> x.knowsWay(place));
        }
    }

    private static void addPairs(List<Refused> all, MapCarrier now) {
        for (int a : someNumbers(now.places())) {
            for (int b : someNumbers(now.places())) {
                String of = "(" + a + ", " + b + ")";
                String due = isNoPlace(now, a) || isNoPlace(now, b) ? PLACE : NONE;
                add(all, "distance" + of, due, x -> x.distance(a, b));
                add(all, "remembered" + of, due, x -> x.remembered(a, b));
                add(all, "strength" + of, due, x -> x.strength(a, b));
            }
        }
    }

    private static void addGoals(List<Refused> all, MapCarrier now) {
        for (int goal : someNumbers(now.places())) {
            String of = "(" + goal + ")";
            String due = isNoPlace(now, goal) ? PLACE : now.goal() != -1 ? STATE : NONE;
            add(all, "beginErrand" + of, due, x -> x.beginErrand(goal));
            add(all, "wouldWalk" + of, due, x -> x.wouldWalk(goal));
            add(all, "bestShepherd" + of, due, x -> x.bestShepherd(goal));
        }
    }

    private static void addNumbers(List<Refused> all, MapCarrier now) {
        for (int coins : Beyond.range(1, 99)) {
            add(all, "pay(" + coins + ")", NUMBER, x -> x.pay(coins));
        }
        for (int nights : Beyond.range(1, 9)) {
            add(all, "sleep(" + nights + ")", NUMBER, x -> x.sleep(nights));
        }
        for (int steps : Beyond.range(1, 100)) {
            add(all, "goOn(" + steps + ")", NUMBER, x -> x.goOn(steps));
        }
        int[] taken = {1, 2, 99, 100};
        for (int steps : taken) {
            add(all, "goOn(" + steps + ")", now.goal() == -1 ? STATE : NONE, x -> x.goOn(steps));
        }
    }

    private static boolean isNoPlace(MapCarrier now, int place) {
        return place < 0 || place >= now.places();
    }

    /** Of so many, numbered from 0: the first two, the last one, the first ones beyond, and the farthest. */
    private static int[] someNumbers(int count) {
        return new int[] {0, 1, count - 1, count, -1, -count, 10, Integer.MIN_VALUE, Integer.MAX_VALUE};
    }
}
