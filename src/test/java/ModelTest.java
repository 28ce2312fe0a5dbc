import java.util.ArrayList;
import java.util.List;
import java.util.Map;
import java.util.Random;
import java.util.TreeMap;

/** Plays chance runs of 512 calls, always the same ones, on the class and on the model. */
public final class ModelTest {
    private static final int RUNS = 400;
    private static final int CALLS = 512;
    private static final int SHOWN = 25;
    // A snapshot is dear, so only some runs look whether a refused call leaves the object as it was.
    private static final int SNAPSHOT_EVERY = 20;

    private final Random random;
    // Some runs keep to few paths, where nodes meet; others to many; some are calm, others full of crashes.
    private final int pathBound;
    private final int trouble;
    private final Map<String, Integer> seen;

    private ModelTest(int seed, Map<String, Integer> seen) {
        random = new Random(seed);
        pathBound = new int[] {3, 8, 44, 259}[seed % 4];
        trouble = new int[] {2, 8, 20}[seed % 3];
        this.seen = seen;
    }

    public static void main(String[] args) {
        Map<String, Integer> seen = new TreeMap<>();
        for (int seed = 0; seed < RUNS; seed++) {
            if (!new ModelTest(seed, seen).play(seed)) {
                System.exit(1);
            }
        }
        System.out.println(RUNS + " runs as the model; answers seen: " + seen);
    }

    private boolean play(int seed) {
        ZnodeService service = new ZnodeService();
        Model model = new Model();
        List<String> calls = new ArrayList<>();
        for (int i = 0; i < CALLS; i++) {
            String call = nextCall();
            boolean looked = seed % SNAPSHOT_EVERY == 0;
            int entries = model.countEntries();
            String before = looked ? Snapshot.of(service) : "";
            String due = model.answer(call.split(" "));
            String got = Script.answer(service, call.split(" "));
            String behind = looked ? Snapshot.of(service) : "";
            calls.add(call + " = " + due);
            seen.merge(call.split(" ")[0] + (due.endsWith("Exception") ? " " + due : ""), 1, Integer::sum);
            if (!model.isSound()) {
                System.out.println("run " + seed + ": the model's own trees and logs part behind " + call);
                return false;
            }
            boolean kept = !due.endsWith("Exception") || entries != model.countEntries() || before.equals(behind);
            if (!due.equals(got) || !kept) {
                System.out.println("run " + seed + ", call " + i + " answered " + got
                    + (kept ? "" : " and changed the object") + ", the last calls:");
                calls.subList(Math.max(0, calls.size() - SHOWN), calls.size()).forEach(System.out::println);
                return false;
            }
        }
        return true;
    }

    private String nextCall() {
        if (random.nextInt(100) < trouble) {
            return troubleCall();
        }
        switch (random.nextInt(20)) {
            case 0: case 1:
                return "open " + session() + " " + server() + " " + about(1, 50);
            case 2:
                return sessionCall();
            case 3: case 4: case 5: case 6:
                return "create " + session() + " " + path() + " " + random.nextInt() + " " + about(0, 3);
            case 7: case 8:
                return "set " + session() + " " + path() + " " + version() + " " + random.nextInt();
            case 9: case 10:
                return "delete " + session() + " " + path() + " " + version();
            case 11:
                return "get " + session() + " " + path() + " " + random.nextBoolean();
            case 12:
                return "exists " + session() + " " + path() + " " + random.nextBoolean();
            case 13: case 14:
                return "children " + session() + " " + path() + " " + random.nextBoolean();
            case 15:
                return "fact " + session() + " " + path() + " " + about(0, 2);
            case 16:
                return "event " + session();
            case 17:
                return random.nextInt(8) == 0 ? "tick " + about(0, 20) : "tick " + random.nextInt(2);
            case 18:
                return "state " + server() + " " + about(0, 5);
            default:
                return "count " + about(0, 7);
        }
    }

    private String sessionCall() {
        switch (random.nextInt(8)) {
            case 0:
                return "close " + session();
            case 1: case 2:
                return "move " + session() + " " + server();
            default:
                return "ping " + session();
        }
    }

    private String troubleCall() {
        switch (random.nextInt(10)) {
            case 0:
                return "crash " + server();
            case 1: case 2: case 3:
                return "restart " + server();
            case 4: case 5:
                return "alone " + server() + " " + random.nextBoolean();
            case 6: case 7:
                return "alone " + server() + " false";
            default:
                return "elect";
        }
    }

    private int about(int least, int most) {
        if (random.nextInt(80) == 0) {
            int[] wrong = {least - 1, most + 1, Integer.MIN_VALUE, Integer.MAX_VALUE};
            return wrong[random.nextInt(4)];
        }
        return least + random.nextInt(most - least + 1);
    }

    private int session() {
        return about(0, 3);
    }

    private int server() {
        return about(0, 2);
    }

    private int path() {
        int bound = random.nextInt(3) == 0 ? pathBound : Math.min(pathBound, 14);
        return about(0, bound - 1);
    }

    private int version() {
        return random.nextInt(3) == 0 ? random.nextInt(4) : about(-1, -1);
    }
}
