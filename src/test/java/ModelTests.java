import java.lang.reflect.InvocationTargetException;
import java.lang.reflect.Method;
import java.util.ArrayList;
import java.util.Arrays;
import java.util.Comparator;
import java.util.List;
import java.util.Set;

/** Promises 1 to 41: long runs of made-up calls, each answered by the program and by PlainWall alike. */
final class ModelTests extends Promises {
    private static final int RUNS = 60;
    private static final int CALLS = 300;
    private static final Set<String> ASKING = Set.of("isScoreThere", "guestOf", "isBooked", "stands", "castAt", "cost",
        "isFree", "services", "callAt", "waiting", "overtime", "lastPlayed", "howOften", "total", "rehearsed", "checksum",
        "bookedShare", "meanServices", "isSound");

    private final List<Method> face = new ArrayList<>();
    private long seed;
    private PlainWall wall;

    ModelTests(Check check) {
        super(check);
        for (Method method : Seasonbook.class.getDeclaredMethods()) {
            if (java.lang.reflect.Modifier.isPublic(method.getModifiers())) {
                face.add(method);
            }
        }
        face.sort(Comparator.comparing(Method::getName));
    }

    @Override
    void run() {
        for (int run = 0; run < RUNS; run++) {
            startOver("run " + run, 977L * run + 5);
            fill(run);
            for (int call = 0; call < CALLS; call++) {
                Method method = pick();
                both(method, arguments(method, run));
            }
            lookAtAll();
        }
        for (int run = 0; run < 60; run++) {
            rehearse(run);
            crowd(run);
        }
    }

    /** One player for each instrument, so that the players of each work are as its parts are. */
    private void rehearse(int run) {
        startOver("rehearsal " + run, 31L * run + 3);
        both("addHall", 0, 96);
        for (int instrument = 0; instrument < 6; instrument++) {
            both("addPlayer", instrument, 0, 10);
        }
        for (int work = 0; work < 6 + run % 3; work++) {
            both("addWork", run % 2 == 0 ? 5 : 1 + next(30), true);
            for (int instrument = 0; instrument < 6; instrument++) {
                both("setParts", work, instrument, next(2));
            }
        }
        both("addService", 'r', 9, 20, 16, 0);
        for (int time = 0; time < 12; time++) {
            both("add", 0, next(wall.works.size()));
        }
        both("book", 0);
        for (int player = 0; player < 4; player++) {
            both("waiting", 0);
            for (int index = -1; index < 7; index++) {
                both("callAt", 0, index);
            }
            both("away", 0, next(6));
        }
    }

    /** Three players, and short services in four halls on few days. */
    private void crowd(int run) {
        startOver("crowd " + run, 17L * run + 9);
        both("addWork", 5, true);
        both("setParts", 0, 0, 1);
        for (int player = 0; player < 3; player++) {
            both("addPlayer", 0, 0, 10 + player % 2);
        }
        for (int hall = 0; hall < 4; hall++) {
            both("addHall", 0, 96);
        }
        for (int service = 0; service < 50; service++) {
            Object added = both("addService", 's', 20 + next(8 + run % 5), 20 + next(60), 4 + next(9), next(4));
            if (added instanceof Integer) {
                both("add", added, 0);
                both("isFree", next(3), added);
                both("book", added);
            }
        }
        lookAtAll();
    }

    private void startOver(String name, long firstSeed) {
        begin(name + " against PlainWall");
        seed = firstSeed;
        wall = new PlainWall();
    }

    /** The same numbers in every run of the tests. */
    private int next(int bound) {
        seed = seed * 6364136223846793005L + 1442695040888963407L;
        return (int) ((seed >>> 33) % bound);
    }

    private Object both(Method method, Object... arguments) {
        String call = method.getName() + Arrays.toString(arguments);
        Object answer = Check.answerOf(() -> invoke(wall, method.getName(), method.getParameterTypes(), arguments));
        boolean isAsking = ASKING.contains(method.getName());
        String before = isAsking ? State.of(book) : "";
        due(call, () -> invoke(book, method.getName(), method.getParameterTypes(), arguments), answer);
        due(call + " only asks", () -> isAsking && !before.equals(State.of(book)), false);
        due("checksum() behind " + call, () -> book.checksum(), wall.checksum());
        return answer;
    }

    private static Object invoke(Object on, String name, Class<?>[] types, Object[] arguments) {
        try {
            Method method = on.getClass().getDeclaredMethod(name, types);
            method.setAccessible(true);
            return method.invoke(on, arguments);
        } catch (InvocationTargetException thrown) {
            throw (RuntimeException) thrown.getCause();
        } catch (ReflectiveOperationException missing) {
            throw new Error(missing);
        }
    }

    private Object both(String name, Object... arguments) {
        for (Method method : face) {
            if (method.getName().equals(name)) {
                return both(method, arguments);
            }
        }
        throw new Error(name);
    }

    /** Busy runs have many services on few days; large ones have casts of up to ten parts. */
    private void fill(int run) {
        boolean isLarge = run % 4 == 0;
        int instruments = isLarge ? 6 : 3;
        int works = 3 + next(10);
        for (int work = 0; work < works; work++) {
            both("addWork", 5 + next(20), next(4) != 0);
            for (int instrument = 0; instrument < instruments; instrument++) {
                both("setParts", work, instrument, next(isLarge ? 4 : 3));
            }
            both("setSolo", work, next(3) == 0);
            both("hire", work, next(60), 1 + next(5), 1 + next(99));
        }
        int players = isLarge ? 14 : 4 + next(9);
        for (int player = 0; player < players; player++) {
            both("addPlayer", next(instruments), next(64) & next(64), 30 + 10 * next(4) + next(2));
        }
        for (int hall = 0; hall < 4; hall++) {
            both("addHall", next(20), 70 + next(27));
        }
        for (int guest = 0; guest < 4; guest++) {
            both("addGuest", 100 * next(4), next(4096) | next(4096));
        }
        for (int service = 0; service < 14; service++) {
            addService(run);
        }
    }

    private void addService(int run) {
        int day = run % 3 == 0 ? next(9) : next(40);
        Object added = both("addService", "rcs".charAt(next(3)), day, next(90), 4 + next(13), next(4));
        if (added instanceof Integer) {
            for (int time = 0; time < 4; time++) {
                both("add", added, next(wall.works.size()));
            }
            both("engage", added, next(wall.guests.size()));
        }
    }

    private Method pick() {
        String[] often = {"book", "book", "book", "away", "cancelGuest", "unbook", "isFree", "callAt", "waiting", "add",
            "engage", "leave", "refuse", "castAt", "ran"};
        int picked = next(face.size() + 2 * often.length);
        if (picked < face.size()) {
            return face.get(picked);
        }
        String name = often[(picked - face.size()) / 2];
        return face.stream().filter(method -> method.getName().equals(name)).findFirst().orElseThrow();
    }

    /** Mostly numbers that there are, now and then one that is just out of range, or far off. */
    private Object[] arguments(Method method, int run) {
        Class<?>[] types = method.getParameterTypes();
        Object[] made = new Object[types.length];
        for (int place = 0; place < types.length; place++) {
            if (types[place] == boolean.class) {
                made[place] = next(3) != 0;
            } else if (types[place] == char.class) {
                made[place] = "rrccsx".charAt(next(6));
            } else {
                int odd = next(60);
                made[place] = odd == 0 ? -1 : odd == 1 ? LEAST : odd == 2 ? MOST : odd == 3 ? next(500)
                    : number(method.getName(), place, run);
            }
        }
        return made;
    }

    private int number(String call, int place, int run) {
        int days = run % 3 == 0 ? 12 : 45;
        int service = next(wall.dates.size() + (next(20) == 0 ? 1 : 0) + (wall.dates.isEmpty() ? 1 : 0));
        int work = next(wall.works.size());
        int player = next(wall.players.size());
        int guest = next(wall.guests.size());
        switch (call) {
            case "addWork": return next(95);
            case "setParts": return place == 0 ? work : place == 1 ? next(6) : next(5);
            case "hire": return place == 0 ? work : place == 1 ? next(days) : 1 + next(9);
            case "isScoreThere": return place == 0 ? work : next(days);
            case "addPlayer": return place == 0 ? next(6) : 1 + next(62);
            case "leave": return place == 0 ? player : next(days);
            case "refuse": case "howOften": return place == 0 ? player : work;
            case "addHall": return place == 0 ? next(95) : next(98);
            case "give": return place == 0 ? next(5) : next(days);
            case "addService": return place == 1 ? next(days) : place == 2 ? next(97) : place == 3 ? next(18) : next(5);
            case "add": case "remove": case "stands": return place == 0 ? service : work;
            case "setSeries": return place == 0 ? service : next(5) - 1;
            case "addGuest": return place == 0 ? next(500) : next(4096);
            case "elsewhere": return place == 0 ? guest : next(days);
            case "engage": return place == 0 ? service : guest;
            case "away": return place == 0 ? service : player;
            case "castAt": return place == 0 ? service : place == 1 ? work : next(4);
            case "isFree": return place == 0 ? player : service;
            case "services": return player;
            case "callAt": return place == 0 ? service : next(3);
            case "ran": return place == 0 ? service : next(34);
            case "lastPlayed": case "rehearsed": case "setSolo": return work;
            default: return service;
        }
    }

    private void lookAtAll() {
        for (int service = 0; service < wall.dates.size(); service++) {
            both("overtime", service);
            both("waiting", service);
            for (int player = 0; player < wall.players.size(); player++) {
                both("isFree", player, service);
            }
            for (int work : wall.dates.get(service).casts.keySet()) {
                for (int part = 0; part < 10; part++) {
                    both("castAt", service, work, part);
                }
            }
            for (int index = 0; index < 6; index++) {
                both("callAt", service, index);
            }
        }
        for (int work = 0; work < wall.works.size(); work++) {
            both("lastPlayed", work);
            both("rehearsed", work);
            both("howOften", next(wall.players.size()), work);
        }
        both("bookedShare");
        both("meanServices");
        both("isSound");
    }
}
