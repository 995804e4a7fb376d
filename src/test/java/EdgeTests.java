import java.util.HashSet;
import java.util.List;
import java.util.Set;

/** The tests of boundary cases, and whether each promise has some, each under a name of its own. */
final class EdgeTests {
    private EdgeTests() {
    }

    static void all(Due due) {
        int before = due.names().size();
        EdgeTownTest.all(due);
        EdgeDaysTest.all(due);
        EdgeFutureTest.all(due);
        EdgeStandTest.all(due);
        EdgeNightTest.all(due);
        EdgeTextTest.all(due);
        EdgeSheetTest.all(due);
        EdgeImageTest.all(due);
        List<String> names = List.copyOf(due.names().subList(before, due.names().size()));
        due.test("each promise has boundary tests, named after it");
        for (int promise = 1; promise <= 40; promise++) {
            String begin = "promise " + promise + ":";
            due.is("tests of " + begin, names.stream().anyMatch(n -> n.startsWith(begin)) ? 1 : 0, 1);
        }
        Set<String> seen = new HashSet<>();
        for (String name : names) {
            if (!seen.add(name)) {
                due.wrong("two tests have the name: " + name);
            }
        }
    }
}
