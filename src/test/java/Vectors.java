import java.util.ArrayList;
import java.util.Comparator;
import java.util.List;

/** Vectors of settings and their order, as the document's terms have them. */
final class Vectors {
    private Vectors() {
    }

    static List<List<Integer>> all(List<Integer> settings) {
        List<List<Integer>> vectors = new ArrayList<>();
        vectors.add(new ArrayList<>());
        for (int count : settings) {
            List<List<Integer>> longer = new ArrayList<>();
            for (List<Integer> vector : vectors) {
                for (int setting = 0; setting < count; setting++) {
                    List<Integer> more = new ArrayList<>(vector);
                    more.add(setting);
                    longer.add(more);
                }
            }
            vectors = longer;
        }
        return vectors;
    }

    static List<List<Integer>> inOrder(List<Integer> settings, List<Integer> current) {
        List<List<Integer>> vectors = all(settings);
        vectors.sort(Comparator.comparingInt((List<Integer> vector) -> changes(vector, current))
                .thenComparing(Vectors::byMachines));
        return vectors;
    }

    static int changes(List<Integer> vector, List<Integer> current) {
        int changes = 0;
        for (int machine = 0; machine < vector.size(); machine++) {
            changes += vector.get(machine).equals(current.get(machine)) ? 0 : 1;
        }
        return changes;
    }

    private static int byMachines(List<Integer> a, List<Integer> b) {
        for (int machine = 0; machine < a.size(); machine++) {
            if (!a.get(machine).equals(b.get(machine))) {
                return a.get(machine) - b.get(machine);
            }
        }
        return 0;
    }
}
