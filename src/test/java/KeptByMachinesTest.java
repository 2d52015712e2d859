import java.util.ArrayList;
import java.util.HashSet;
import java.util.List;
import java.util.Random;
import java.util.Set;

/** Machines keep what is dropped, until they go down: runs that chance makes up, with ints that come and go. */
public final class KeptByMachinesTest extends Check {
    private static final int RUNS = 60;
    private static final int ROUNDS = 10;
    private static final int VALUES = 30;
    private static final int NAMES = 16;
    private static final int ALL = 20;

    private final Random random;
    private final List<Set<String>> kept = List.of(new HashSet<>(), new HashSet<>(), new HashSet<>());
    private final int[] values = new int[NAMES];
    private final int[] ints = new int[VALUES];
    private final int[] refs = new int[NAMES];
    private long traffic;

    private KeptByMachinesTest(long seed) {
        random = new Random(seed);
        begin("kept by machines, run " + seed);
    }

    public static void main(String[] args) {
        for (int seed = 0; seed < RUNS; seed++) {
            new KeptByMachinesTest(seed).run();
        }
        end();
    }

    private void run() {
        int type = type();
        for (int i = 0; i < VALUES; i++) {
            ints[i] = num(i);
        }
        for (int name = 0; name < NAMES; name++) {
            refs[name] = ref(name);
            values[name] = NO;
        }
        for (int round = 0; round < ROUNDS; round++) {
            defineSome(type);
            look();
            work(type, random.nextInt(3));
            if (random.nextInt(8) == 0) {
                int machine = random.nextInt(3);
                x.down(machine);
                x.up(machine);
                kept.get(machine).clear();
            }
            dropSome();
        }
    }

    private void defineSome(int type) {
        int staged = 0;
        for (int name = 0; name < NAMES && staged < 8; name++) {
            if (values[name] == NO) {
                values[name] = random.nextInt(VALUES);
                x.stage(name, type, ints[values[name]]);
                staged++;
            }
        }
        x.define();
    }

    private void look() {
        for (int i = 0; i < 6; i++) {
            int name = random.nextInt(NAMES);
            int machine = random.nextInt(3);
            if (values[name] != NO) {
                int due = kept.get(machine).contains("" + values[name]) ? 0 : 1;
                due("lacking " + values[name], due, x.lacking(machine, name));
            }
        }
    }

    /** A machine gets some of the ints with a sum of them. */
    private void work(int type, int machine) {
        List<Integer> names = new ArrayList<>();
        for (int name = 0; name < NAMES; name++) {
            if (values[name] != NO && random.nextInt(3) == 0) {
                names.add(name);
            }
        }
        if (names.size() < 2) {
            return;
        }
        StringBuilder all = new StringBuilder();
        int sum = refs[names.get(0)];
        for (int i = 1; i < names.size(); i++) {
            sum = op(refs[names.get(i)], '+', sum);
        }
        Set<String> sent = kept.get(machine);
        for (int name : names) {
            traffic += sent.add("" + values[name]) ? 1 : 0;
            all.append('+').append(values[name]);
        }
        traffic += sent.add(all.toString()) ? 1 : 0;
        defineInt(ALL, sum);
        x.job(machine, ALL);
        x.goOn(machine);
        due("traffic", traffic, x.traffic());
        x.unname(ALL);
    }

    private void dropSome() {
        Set<Integer> left = new HashSet<>();
        for (int name = 0; name < NAMES; name++) {
            if (values[name] != NO && random.nextInt(3) != 0) {
                x.unname(name);
                values[name] = NO;
            }
            if (values[name] != NO) {
                left.add(values[name]);
            }
        }
        x.collect();
        due("left", left.size(), x.definitions());
    }
}
