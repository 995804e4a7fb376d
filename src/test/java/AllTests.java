/** Arguments: the class's source file, the document, and README.md. */
public final class AllTests {
    private AllTests() {
    }

    public static void main(String[] args) throws Exception {
        if (args.length != 3) {
            System.out.println("usage: AllTests BareThursday.java DOC.md README.md");
            System.exit(2);
        }
        Due due = new Due();
        PeopleTest.all(due);
        DaysTest.all(due);
        FutureTest.all(due);
        StandTest.all(due);
        ToldTest.all(due);
        NightTest.all(due);
        TextTest.all(due);
        SheetTest.all(due);
        ImageTest.all(due);
        EdgeTests.all(due);
        OracleTest.all(due);
        FaceTest.all(due, args[0], args[1]);
        ReadmeTest.all(due, args[2], args[1]);
        if (!due.end()) {
            System.exit(1);
        }
    }
}
