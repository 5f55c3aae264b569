import java.util.ArrayList;
import java.util.List;
import java.util.TreeSet;

/** The least sum of tables over variables of few values, one variable struck out after the other. */
final class Tables {
    static final long NEVER = 1L << 50;

    private static final class Table {
        final int[] of;
        final long[] pays;

        Table(int[] of, long[] pays) {
            this.of = of;
            this.pays = pays;
        }
    }

    private final int variables;
    private final int values;
    private final List<Table> tables = new ArrayList<>();

    Tables(int variables, int values) {
        this.variables = variables;
        this.values = values;
    }

    void add(int variable, long[] pays) {
        tables.add(new Table(new int[] {variable}, pays.clone()));
    }

    void add(int one, int other, long[][] pays) {
        long[] flat = new long[values * values];
        for (int i = 0; i < values; i++) {
            for (int k = 0; k < values; k++) {
                flat[i + values * k] = pays[i][k];
            }
        }
        tables.add(new Table(new int[] {one, other}, flat));
    }

    long least() {
        long sum = 0;
        boolean[] struck = new boolean[variables];
        for (int round = 0; round < variables; round++) {
            int chosen = -1;
            TreeSet<Integer> around = null;
            for (int v = 0; v < variables; v++) {
                if (!struck[v]) {
                    TreeSet<Integer> beside = beside(v);
                    if (chosen < 0 || beside.size() < around.size()) {
                        chosen = v;
                        around = beside;
                    }
                }
            }
            struck[chosen] = true;
            sum += strike(chosen, around);
        }
        return Math.min(sum, NEVER);
    }

    private TreeSet<Integer> beside(int v) {
        TreeSet<Integer> all = new TreeSet<>();
        for (Table t : tables) {
            if (holds(t, v)) {
                for (int o : t.of) {
                    if (o != v) {
                        all.add(o);
                    }
                }
            }
        }
        return all;
    }

    private static boolean holds(Table t, int v) {
        for (int o : t.of) {
            if (o == v) {
                return true;
            }
        }
        return false;
    }

    private long strike(int v, TreeSet<Integer> around) {
        int[] of = new int[around.size()];
        int size = 1;
        int at = 0;
        for (int o : around) {
            of[at++] = o;
            size *= values;
        }
        List<Table> used = new ArrayList<>();
        for (Table t : tables) {
            if (holds(t, v)) {
                used.add(t);
            }
        }
        tables.removeAll(used);
        long[] pays = new long[size];
        int[] value = new int[variables];
        for (int i = 0; i < size; i++) {
            int rest = i;
            for (int o : of) {
                value[o] = rest % values;
                rest /= values;
            }
            long least = Long.MAX_VALUE;
            for (int k = 0; k < values; k++) {
                value[v] = k;
                long sum = 0;
                for (Table t : used) {
                    int place = 0;
                    for (int j = t.of.length - 1; j >= 0; j--) {
                        place = place * values + value[t.of[j]];
                    }
                    sum += t.pays[place];
                }
                least = Math.min(least, sum);
            }
            pays[i] = Math.min(least, NEVER);
        }
        if (of.length == 0) {
            return pays[0];
        }
        tables.add(new Table(of, pays));
        return 0;
    }
}
